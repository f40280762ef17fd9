set_option maxHeartbeats 4000000 in
set_option maxRecDepth 100000 in
theorem lc_inode {p : Program} {l : Launch} {e : Env} {s : State} {m : MethodId} {below : List Frame} {meth : Method} {c : Code} {b L : Nat} {xs : Nat → Int32} {D : va_G} {cI cJ : ClassId} {h0 q1 q2 q3 g0 qk qs qp qw qr qo qn : Nat} {iv : Int32} {k : Nat} {cs : CS} {rs : RS} {H : Heap} {locs : List Loc} {ls : Array Slot} (hL : L ≤ 4096) (C0 : lw_At p s m meth c b L xs) (hK : va_K D vwCl (gT cI cJ) s) (hiv : iv = nI (8 * k)) (hk : 8 * k + 8 ≤ L) (hB : RB cs rs) (hI : IV rs) (hG : gG D (fun q : Nat => s.heap.size ≤ q) s.heap (wC h0 q1 q2 q3 cJ cs ++ wR g0 qk qs qp qw qr qo qn cI cJ rs) H locs) (hl : lv_has ls 4 [(0, .ref b), (1, .ref h0), (2, .ref g0), (3, .int iv)]) (K : ∀ (cs' : CS) (rs' : RS) (H : Heap) (locs : List Loc), RB cs' rs' → IV rs' → (∃ m, m ≤ 200 ∧ R_wr rs' = R_wr rs + nI m) → gG D (fun q : Nat => s.heap.size ≤ q) s.heap (wC h0 q1 q2 q3 cJ cs' ++ wR g0 qk qs qp qw qr qo qn cI cJ rs') H locs → W p l e room_1 s m #[Value.ref b] below meth c H locs 12 540 (lw_Z below #[Value.ref b] s) (F0 m 825 ls [])) : W p l e room_1 s m #[Value.ref b] below meth c H locs 12 540 (lw_Z below #[Value.ref b] s) (F0 m 582 ls []) := by
  obtain ⟨hx, hb, hr, hml, hown, hts0, hX, hbl, hlocks, hgv⟩ := C0
  have hts : ∀ w ∈ wsL_law, w.before #[Value.ref b] s = true := fun w h => hts0 w (wsL_law_in w h)
  have hA : ∀ q : Nat, s.heap.size ≤ q → (fun q : Nat => s.heap.size ≤ q) q := fun _ h => h
  have hbA : ¬ (fun q : Nat => s.heap.size ≤ q) b := Nat.not_le.mpr hbl
  have B : CallFix p m c cL_law 4 s #[Value.ref b] wsL_law RL := ⟨hx, hb, hml, hown, hts⟩
  have vin1 : vp_in (iv + (1 : Int32)) L := by rw [hiv, show (1 : Int32) = nI 1 from rfl, nI_add]; exact vp_in_nI (by omega) (by omega)
  have vin2 : vp_in (iv + (2 : Int32)) L := by rw [hiv, show (2 : Int32) = nI 2 from rfl, nI_add]; exact vp_in_nI (by omega) (by omega)
  obtain ⟨v, e1, e2⟩ := mm_inode hB (xs (iv + (1 : Int32)).toNatClampNeg) (xs (iv + (2 : Int32)).toNatClampNeg)
  refine lv_aload_n hx hb dL_law_582 rfl (lv_at hl 1 rfl) ?_
  refine lv_aload_n hx hb dL_law_583 rfl (lv_at hl 0 rfl) ?_
  refine lv_iload_n hx hb dL_law_584 rfl (lv_at hl 3 rfl) ?_
  refine lv_iconst (v := 1) hx hb dL_law_585 (by decide) ?_
  refine lv_iadd hx hb dL_law_586 ?_
  refine va_sld hx hb hX hbl hbA hG.2.2 vin1 dL_law_587 ?_
  refine lv_aload_n hx hb dL_law_588 rfl (lv_at hl 0 rfl) ?_
  refine lv_iload_n hx hb dL_law_589 rfl (lv_at hl 3 rfl) ?_
  refine lv_iconst (v := 2) hx hb dL_law_590 (by decide) ?_
  refine lv_iadd hx hb dL_law_591 ?_
  refine va_sld hx hb hX hbl hbA hG.2.2 vin2 dL_law_592 ?_
  refine gl_Vi (wc := wC h0 q1 q2 q3 cJ cs) (wr := wR g0 qk qs qp qw qr qo qn cI cJ rs) [0, 1, 2, 3] [4, 5, 6, 7, 8, 9, 10, 11] hA hK hl.1 hG B (c_X2_inode l D cI cJ h0 q1 q2 q3 _ cs (xs (iv + (1 : Int32)).toNatClampNeg) (xs (iv + (2 : Int32)).toNatClampNeg) _ e1) (cwV 2 hts gL_law_X2_inode rfl rfl rfl (by decide +kernel) ⟨by decide, by decide⟩) rfl rfl rfl rfl (by decide) 0 rfl rfl rfl rfl rfl (Nat.le_of_ble_eq_true rfl) dL_law_593 ⟨by decide, by decide⟩ (fun H locs hG => ?_)
  have hG : gG D (fun q : Nat => s.heap.size ≤ q) s.heap (wR g0 qk qs qp qw qr qo qn cI cJ rs ++ wC h0 q1 q2 q3 cJ cs) H locs := hG
  refine lv_aload_n hx hb dL_law_596 rfl (lv_at hl 2 rfl) ?_
  refine lv_aload_n hx hb dL_law_597 rfl (lv_at hl 0 rfl) ?_
  refine lv_iload_n hx hb dL_law_598 rfl (lv_at hl 3 rfl) ?_
  refine lv_iconst (v := 1) hx hb dL_law_599 (by decide) ?_
  refine lv_iadd hx hb dL_law_600 ?_
  refine va_sld hx hb hX hbl hbA hG.2.2 vin1 dL_law_601 ?_
  refine lv_aload_n hx hb dL_law_602 rfl (lv_at hl 0 rfl) ?_
  refine lv_iload_n hx hb dL_law_603 rfl (lv_at hl 3 rfl) ?_
  refine lv_iconst (v := 2) hx hb dL_law_604 (by decide) ?_
  refine lv_iadd hx hb dL_law_605 ?_
  refine va_sld hx hb hX hbl hbA hG.2.2 vin2 dL_law_606 ?_
  refine gl_Vi (wc := wR g0 qk qs qp qw qr qo qn cI cJ rs) (wr := wC h0 q1 q2 q3 cJ cs) [0, 1, 2, 3, 4, 5, 6, 7] [8, 9, 10, 11] hA hK hl.1 hG B (c_X3_inode l D cI cJ g0 qk qs qp qw qr qo qn _ rs (xs (iv + (1 : Int32)).toNatClampNeg) (xs (iv + (2 : Int32)).toNatClampNeg) _ e2) (cwV 2 hts gL_law_X3_inode rfl rfl rfl (by decide +kernel) ⟨by decide, by decide⟩) rfl rfl rfl rfl (by decide) 0 rfl rfl rfl rfl rfl (Nat.le_of_ble_eq_true rfl) dL_law_607 ⟨by decide, by decide⟩ (fun H locs hG => ?_)
  have hG : gG D (fun q : Nat => s.heap.size ≤ q) s.heap (wC h0 q1 q2 q3 cJ cs ++ wR g0 qk qs qp qw qr qo qn cI cJ rs) H locs := hG
  refine lv_icmp_eq (tgt := 825) hx hb dL_law_610 (by decide) (fun _ => ?_) (fun cq => ?_)
  · exact K cs rs H locs hB hI ⟨0, by omega, (Int32.add_zero _).symm⟩ hG
  · exact absurd rfl cq
set_option maxHeartbeats 4000000 in
set_option maxRecDepth 100000 in
theorem lc_data {p : Program} {l : Launch} {e : Env} {s : State} {m : MethodId} {below : List Frame} {meth : Method} {c : Code} {b L : Nat} {xs : Nat → Int32} {D : va_G} {cI cJ : ClassId} {h0 q1 q2 q3 g0 qk qs qp qw qr qo qn : Nat} {iv : Int32} {k : Nat} {cs : CS} {rs : RS} {H : Heap} {locs : List Loc} {ls : Array Slot} (hL : L ≤ 4096) (C0 : lw_At p s m meth c b L xs) (hK : va_K D vwCl (gT cI cJ) s) (hiv : iv = nI (8 * k)) (hk : 8 * k + 8 ≤ L) (hB : RB cs rs) (hI : IV rs) (hG : gG D (fun q : Nat => s.heap.size ≤ q) s.heap (wC h0 q1 q2 q3 cJ cs ++ wR g0 qk qs qp qw qr qo qn cI cJ rs) H locs) (hl : lv_has ls 4 [(0, .ref b), (1, .ref h0), (2, .ref g0), (3, .int iv)]) (K : ∀ (cs' : CS) (rs' : RS) (H : Heap) (locs : List Loc), RB cs' rs' → IV rs' → (∃ m, m ≤ 200 ∧ R_wr rs' = R_wr rs + nI m) → gG D (fun q : Nat => s.heap.size ≤ q) s.heap (wC h0 q1 q2 q3 cJ cs' ++ wR g0 qk qs qp qw qr qo qn cI cJ rs') H locs → W p l e room_1 s m #[Value.ref b] below meth c H locs 12 540 (lw_Z below #[Value.ref b] s) (F0 m 825 ls [])) : W p l e room_1 s m #[Value.ref b] below meth c H locs 12 540 (lw_Z below #[Value.ref b] s) (F0 m 615 ls []) := by
  obtain ⟨hx, hb, hr, hml, hown, hts0, hX, hbl, hlocks, hgv⟩ := C0
  have hts : ∀ w ∈ wsL_law, w.before #[Value.ref b] s = true := fun w h => hts0 w (wsL_law_in w h)
  have hA : ∀ q : Nat, s.heap.size ≤ q → (fun q : Nat => s.heap.size ≤ q) q := fun _ h => h
  have hbA : ¬ (fun q : Nat => s.heap.size ≤ q) b := Nat.not_le.mpr hbl
  have B : CallFix p m c cL_law 4 s #[Value.ref b] wsL_law RL := ⟨hx, hb, hml, hown, hts⟩
  have vin1 : vp_in (iv + (1 : Int32)) L := by rw [hiv, show (1 : Int32) = nI 1 from rfl, nI_add]; exact vp_in_nI (by omega) (by omega)
  have vin2 : vp_in (iv + (2 : Int32)) L := by rw [hiv, show (2 : Int32) = nI 2 from rfl, nI_add]; exact vp_in_nI (by omega) (by omega)
  obtain ⟨v, cs', rs', e1, e2, hB', hI', hw'⟩ := mm_data hB hI (xs (iv + (1 : Int32)).toNatClampNeg) (xs (iv + (2 : Int32)).toNatClampNeg)
  have e1 := Option.some.inj e1
  refine lv_aload_n hx hb dL_law_615 rfl (lv_at hl 1 rfl) ?_
  refine lv_aload_n hx hb dL_law_616 rfl (lv_at hl 0 rfl) ?_
  refine lv_iload_n hx hb dL_law_617 rfl (lv_at hl 3 rfl) ?_
  refine lv_iconst (v := 1) hx hb dL_law_618 (by decide) ?_
  refine lv_iadd hx hb dL_law_619 ?_
  refine va_sld hx hb hX hbl hbA hG.2.2 vin1 dL_law_620 ?_
  refine lv_aload_n hx hb dL_law_621 rfl (lv_at hl 0 rfl) ?_
  refine lv_iload_n hx hb dL_law_622 rfl (lv_at hl 3 rfl) ?_
  refine lv_iconst (v := 2) hx hb dL_law_623 (by decide) ?_
  refine lv_iadd hx hb dL_law_624 ?_
  refine va_sld hx hb hX hbl hbA hG.2.2 vin2 dL_law_625 ?_
  refine gl_Vi (wc := wC h0 q1 q2 q3 cJ cs) (wr := wR g0 qk qs qp qw qr qo qn cI cJ rs) [0, 1, 2, 3] [4, 5, 6, 7, 8, 9, 10, 11] hA hK hl.1 hG B (c_X2_data l D cI cJ h0 q1 q2 q3 _ cs (xs (iv + (1 : Int32)).toNatClampNeg) (xs (iv + (2 : Int32)).toNatClampNeg) _ _ e1) (cwV 2 hts gL_law_X2_data rfl rfl rfl (by decide +kernel) ⟨by decide, by decide⟩) rfl rfl rfl rfl (by decide) 0 rfl rfl rfl rfl rfl (Nat.le_of_ble_eq_true rfl) dL_law_626 ⟨by decide, by decide⟩ (fun H locs hG => ?_)
  have hG : gG D (fun q : Nat => s.heap.size ≤ q) s.heap (wR g0 qk qs qp qw qr qo qn cI cJ rs ++ wC h0 q1 q2 q3 cJ cs') H locs := hG
  refine lv_aload_n hx hb dL_law_629 rfl (lv_at hl 2 rfl) ?_
  refine lv_aload_n hx hb dL_law_630 rfl (lv_at hl 0 rfl) ?_
  refine lv_iload_n hx hb dL_law_631 rfl (lv_at hl 3 rfl) ?_
  refine lv_iconst (v := 1) hx hb dL_law_632 (by decide) ?_
  refine lv_iadd hx hb dL_law_633 ?_
  refine va_sld hx hb hX hbl hbA hG.2.2 vin1 dL_law_634 ?_
  refine lv_aload_n hx hb dL_law_635 rfl (lv_at hl 0 rfl) ?_
  refine lv_iload_n hx hb dL_law_636 rfl (lv_at hl 3 rfl) ?_
  refine lv_iconst (v := 2) hx hb dL_law_637 (by decide) ?_
  refine lv_iadd hx hb dL_law_638 ?_
  refine va_sld hx hb hX hbl hbA hG.2.2 vin2 dL_law_639 ?_
  refine gl_Vi (wc := wR g0 qk qs qp qw qr qo qn cI cJ rs) (wr := wC h0 q1 q2 q3 cJ cs') [0, 1, 2, 3, 4, 5, 6, 7] [8, 9, 10, 11] hA hK hl.1 hG B (c_X3_data l D cI cJ g0 qk qs qp qw qr qo qn _ rs (xs (iv + (1 : Int32)).toNatClampNeg) (xs (iv + (2 : Int32)).toNatClampNeg) _ _ e2) (cwV 2 hts gL_law_X3_data rfl rfl rfl (by decide +kernel) ⟨by decide, by decide⟩) rfl rfl rfl rfl (by decide) 0 rfl rfl rfl rfl rfl (Nat.le_of_ble_eq_true rfl) dL_law_640 ⟨by decide, by decide⟩ (fun H locs hG => ?_)
  have hG : gG D (fun q : Nat => s.heap.size ≤ q) s.heap (wC h0 q1 q2 q3 cJ cs' ++ wR g0 qk qs qp qw qr qo qn cI cJ rs') H locs := hG
  refine lv_icmp_eq (tgt := 825) hx hb dL_law_643 (by decide) (fun _ => ?_) (fun cq => ?_)
  · exact K cs' rs' H locs hB' hI' hw' hG
  · exact absurd rfl cq
set_option maxHeartbeats 4000000 in
set_option maxRecDepth 100000 in
theorem lc_read {p : Program} {l : Launch} {e : Env} {s : State} {m : MethodId} {below : List Frame} {meth : Method} {c : Code} {b L : Nat} {xs : Nat → Int32} {D : va_G} {cI cJ : ClassId} {h0 q1 q2 q3 g0 qk qs qp qw qr qo qn : Nat} {iv : Int32} {k : Nat} {cs : CS} {rs : RS} {H : Heap} {locs : List Loc} {ls : Array Slot} (hL : L ≤ 4096) (C0 : lw_At p s m meth c b L xs) (hK : va_K D vwCl (gT cI cJ) s) (hiv : iv = nI (8 * k)) (hk : 8 * k + 8 ≤ L) (hB : RB cs rs) (hI : IV rs) (hG : gG D (fun q : Nat => s.heap.size ≤ q) s.heap (wC h0 q1 q2 q3 cJ cs ++ wR g0 qk qs qp qw qr qo qn cI cJ rs) H locs) (hl : lv_has ls 4 [(0, .ref b), (1, .ref h0), (2, .ref g0), (3, .int iv)]) (K : ∀ (cs' : CS) (rs' : RS) (H : Heap) (locs : List Loc), RB cs' rs' → IV rs' → (∃ m, m ≤ 200 ∧ R_wr rs' = R_wr rs + nI m) → gG D (fun q : Nat => s.heap.size ≤ q) s.heap (wC h0 q1 q2 q3 cJ cs' ++ wR g0 qk qs qp qw qr qo qn cI cJ rs') H locs → W p l e room_1 s m #[Value.ref b] below meth c H locs 12 540 (lw_Z below #[Value.ref b] s) (F0 m 825 ls [])) : W p l e room_1 s m #[Value.ref b] below meth c H locs 12 540 (lw_Z below #[Value.ref b] s) (F0 m 648 ls []) := by
  obtain ⟨hx, hb, hr, hml, hown, hts0, hX, hbl, hlocks, hgv⟩ := C0
  have hts : ∀ w ∈ wsL_law, w.before #[Value.ref b] s = true := fun w h => hts0 w (wsL_law_in w h)
  have hA : ∀ q : Nat, s.heap.size ≤ q → (fun q : Nat => s.heap.size ≤ q) q := fun _ h => h
  have hbA : ¬ (fun q : Nat => s.heap.size ≤ q) b := Nat.not_le.mpr hbl
  have B : CallFix p m c cL_law 4 s #[Value.ref b] wsL_law RL := ⟨hx, hb, hml, hown, hts⟩
  have vin1 : vp_in (iv + (1 : Int32)) L := by rw [hiv, show (1 : Int32) = nI 1 from rfl, nI_add]; exact vp_in_nI (by omega) (by omega)
  have vin2 : vp_in (iv + (2 : Int32)) L := by rw [hiv, show (2 : Int32) = nI 2 from rfl, nI_add]; exact vp_in_nI (by omega) (by omega)
  have vin3 : vp_in (iv + (3 : Int32)) L := by rw [hiv, show (3 : Int32) = nI 3 from rfl, nI_add]; exact vp_in_nI (by omega) (by omega)
  obtain ⟨v, cs', rs', e1, e2, hB', hI', hw'⟩ := mm_read hB hI (xs (iv + (1 : Int32)).toNatClampNeg) (xs (iv + (2 : Int32)).toNatClampNeg) (xs (iv + (3 : Int32)).toNatClampNeg)
  have e1 := Option.some.inj e1
  refine lv_aload_n hx hb dL_law_648 rfl (lv_at hl 1 rfl) ?_
  refine lv_aload_n hx hb dL_law_649 rfl (lv_at hl 0 rfl) ?_
  refine lv_iload_n hx hb dL_law_650 rfl (lv_at hl 3 rfl) ?_
  refine lv_iconst (v := 1) hx hb dL_law_651 (by decide) ?_
  refine lv_iadd hx hb dL_law_652 ?_
  refine va_sld hx hb hX hbl hbA hG.2.2 vin1 dL_law_653 ?_
  refine lv_aload_n hx hb dL_law_654 rfl (lv_at hl 0 rfl) ?_
  refine lv_iload_n hx hb dL_law_655 rfl (lv_at hl 3 rfl) ?_
  refine lv_iconst (v := 2) hx hb dL_law_656 (by decide) ?_
  refine lv_iadd hx hb dL_law_657 ?_
  refine va_sld hx hb hX hbl hbA hG.2.2 vin2 dL_law_658 ?_
  refine lv_aload_n hx hb dL_law_659 rfl (lv_at hl 0 rfl) ?_
  refine lv_iload_n hx hb dL_law_660 rfl (lv_at hl 3 rfl) ?_
  refine lv_iconst (v := 3) hx hb dL_law_661 (by decide) ?_
  refine lv_iadd hx hb dL_law_662 ?_
  refine va_sld hx hb hX hbl hbA hG.2.2 vin3 dL_law_663 ?_
  refine gl_Vi (wc := wC h0 q1 q2 q3 cJ cs) (wr := wR g0 qk qs qp qw qr qo qn cI cJ rs) [0, 1, 2, 3] [4, 5, 6, 7, 8, 9, 10, 11] hA hK hl.1 hG B (c_X2_read l D cI cJ h0 q1 q2 q3 _ cs (xs (iv + (1 : Int32)).toNatClampNeg) (xs (iv + (2 : Int32)).toNatClampNeg) (xs (iv + (3 : Int32)).toNatClampNeg) _ _ e1) (cwV 3 hts gL_law_X2_read rfl rfl rfl (by decide +kernel) ⟨by decide, by decide⟩) rfl rfl rfl rfl (by decide) 0 rfl rfl rfl rfl rfl (Nat.le_of_ble_eq_true rfl) dL_law_664 ⟨by decide, by decide⟩ (fun H locs hG => ?_)
  have hG : gG D (fun q : Nat => s.heap.size ≤ q) s.heap (wR g0 qk qs qp qw qr qo qn cI cJ rs ++ wC h0 q1 q2 q3 cJ cs') H locs := hG
  refine lv_aload_n hx hb dL_law_667 rfl (lv_at hl 2 rfl) ?_
  refine lv_aload_n hx hb dL_law_668 rfl (lv_at hl 0 rfl) ?_
  refine lv_iload_n hx hb dL_law_669 rfl (lv_at hl 3 rfl) ?_
  refine lv_iconst (v := 1) hx hb dL_law_670 (by decide) ?_
  refine lv_iadd hx hb dL_law_671 ?_
  refine va_sld hx hb hX hbl hbA hG.2.2 vin1 dL_law_672 ?_
  refine lv_aload_n hx hb dL_law_673 rfl (lv_at hl 0 rfl) ?_
  refine lv_iload_n hx hb dL_law_674 rfl (lv_at hl 3 rfl) ?_
  refine lv_iconst (v := 2) hx hb dL_law_675 (by decide) ?_
  refine lv_iadd hx hb dL_law_676 ?_
  refine va_sld hx hb hX hbl hbA hG.2.2 vin2 dL_law_677 ?_
  refine lv_aload_n hx hb dL_law_678 rfl (lv_at hl 0 rfl) ?_
  refine lv_iload_n hx hb dL_law_679 rfl (lv_at hl 3 rfl) ?_
  refine lv_iconst (v := 3) hx hb dL_law_680 (by decide) ?_
  refine lv_iadd hx hb dL_law_681 ?_
  refine va_sld hx hb hX hbl hbA hG.2.2 vin3 dL_law_682 ?_
  refine gl_Vi (wc := wR g0 qk qs qp qw qr qo qn cI cJ rs) (wr := wC h0 q1 q2 q3 cJ cs') [0, 1, 2, 3, 4, 5, 6, 7] [8, 9, 10, 11] hA hK hl.1 hG B (c_X3_read l D cI cJ g0 qk qs qp qw qr qo qn _ rs (xs (iv + (1 : Int32)).toNatClampNeg) (xs (iv + (2 : Int32)).toNatClampNeg) (xs (iv + (3 : Int32)).toNatClampNeg) _ _ e2) (cwV 3 hts gL_law_X3_read rfl rfl rfl (by decide +kernel) ⟨by decide, by decide⟩) rfl rfl rfl rfl (by decide) 0 rfl rfl rfl rfl rfl (Nat.le_of_ble_eq_true rfl) dL_law_683 ⟨by decide, by decide⟩ (fun H locs hG => ?_)
  have hG : gG D (fun q : Nat => s.heap.size ≤ q) s.heap (wC h0 q1 q2 q3 cJ cs' ++ wR g0 qk qs qp qw qr qo qn cI cJ rs') H locs := hG
  refine lv_icmp_eq (tgt := 825) hx hb dL_law_686 (by decide) (fun _ => ?_) (fun cq => ?_)
  · exact K cs' rs' H locs hB' hI' hw' hG
  · exact absurd rfl cq
set_option maxHeartbeats 4000000 in
set_option maxRecDepth 100000 in
theorem lc_asked {p : Program} {l : Launch} {e : Env} {s : State} {m : MethodId} {below : List Frame} {meth : Method} {c : Code} {b L : Nat} {xs : Nat → Int32} {D : va_G} {cI cJ : ClassId} {h0 q1 q2 q3 g0 qk qs qp qw qr qo qn : Nat} {iv : Int32} {k : Nat} {cs : CS} {rs : RS} {H : Heap} {locs : List Loc} {ls : Array Slot} (hL : L ≤ 4096) (C0 : lw_At p s m meth c b L xs) (hK : va_K D vwCl (gT cI cJ) s) (hiv : iv = nI (8 * k)) (hk : 8 * k + 8 ≤ L) (hB : RB cs rs) (hI : IV rs) (hG : gG D (fun q : Nat => s.heap.size ≤ q) s.heap (wC h0 q1 q2 q3 cJ cs ++ wR g0 qk qs qp qw qr qo qn cI cJ rs) H locs) (hl : lv_has ls 4 [(0, .ref b), (1, .ref h0), (2, .ref g0), (3, .int iv)]) (K : ∀ (cs' : CS) (rs' : RS) (H : Heap) (locs : List Loc), RB cs' rs' → IV rs' → (∃ m, m ≤ 200 ∧ R_wr rs' = R_wr rs + nI m) → gG D (fun q : Nat => s.heap.size ≤ q) s.heap (wC h0 q1 q2 q3 cJ cs' ++ wR g0 qk qs qp qw qr qo qn cI cJ rs') H locs → W p l e room_1 s m #[Value.ref b] below meth c H locs 12 540 (lw_Z below #[Value.ref b] s) (F0 m 825 ls [])) : W p l e room_1 s m #[Value.ref b] below meth c H locs 12 540 (lw_Z below #[Value.ref b] s) (F0 m 691 ls []) := by
  obtain ⟨hx, hb, hr, hml, hown, hts0, hX, hbl, hlocks, hgv⟩ := C0
  have hts : ∀ w ∈ wsL_law, w.before #[Value.ref b] s = true := fun w h => hts0 w (wsL_law_in w h)
  have hA : ∀ q : Nat, s.heap.size ≤ q → (fun q : Nat => s.heap.size ≤ q) q := fun _ h => h
  have hbA : ¬ (fun q : Nat => s.heap.size ≤ q) b := Nat.not_le.mpr hbl
  have B : CallFix p m c cL_law 4 s #[Value.ref b] wsL_law RL := ⟨hx, hb, hml, hown, hts⟩
  obtain ⟨v, e1⟩ : ∃ v, f_X2_asked cs = v := ⟨_, rfl⟩
  have e2 : f_X3_asked rs = v := (mm_asked hB).symm.trans e1
  refine lv_aload_n hx hb dL_law_691 rfl (lv_at hl 1 rfl) ?_
  refine gl_Vl (wc := wC h0 q1 q2 q3 cJ cs) (wr := wR g0 qk qs qp qw qr qo qn cI cJ rs) [0, 1, 2, 3] [4, 5, 6, 7, 8, 9, 10, 11] hA hK hl.1 hG B (c_X2_asked l D cI cJ h0 q1 q2 q3 _ cs  _ e1) (cwV 0 hts gL_law_X2_asked rfl rfl rfl (by decide +kernel) ⟨by decide, by decide⟩) rfl rfl rfl rfl (by decide) 0 rfl rfl rfl rfl rfl (Nat.le_of_ble_eq_true rfl) dL_law_692 ⟨by decide, by decide⟩ (fun H locs hG => ?_)
  have hG : gG D (fun q : Nat => s.heap.size ≤ q) s.heap (wR g0 qk qs qp qw qr qo qn cI cJ rs ++ wC h0 q1 q2 q3 cJ cs) H locs := hG
  refine lv_aload_n hx hb dL_law_695 rfl (lv_at hl 2 rfl) ?_
  refine gl_Vl (wc := wR g0 qk qs qp qw qr qo qn cI cJ rs) (wr := wC h0 q1 q2 q3 cJ cs) [0, 1, 2, 3, 4, 5, 6, 7] [8, 9, 10, 11] hA hK hl.1 hG B (c_X3_asked l D cI cJ g0 qk qs qp qw qr qo qn _ rs  _ e2) (cwV 0 hts gL_law_X3_asked rfl rfl rfl (by decide +kernel) ⟨by decide, by decide⟩) rfl rfl rfl rfl (by decide) 0 rfl rfl rfl rfl rfl (Nat.le_of_ble_eq_true rfl) dL_law_696 ⟨by decide, by decide⟩ (fun H locs hG => ?_)
  have hG : gG D (fun q : Nat => s.heap.size ≤ q) s.heap (wC h0 q1 q2 q3 cJ cs ++ wR g0 qk qs qp qw qr qo qn cI cJ rs) H locs := hG
  refine W.lcmp hx hb dL_law_699 ?_
  refine lv_if_eq (tgt := 825) hx hb dL_law_700 (by decide) (fun _ => ?_) (fun cq => ?_)
  · exact K cs rs H locs hB hI ⟨0, by omega, (Int32.add_zero _).symm⟩ hG
  · exact absurd (by unfold lg_cmp; simp) cq
set_option maxHeartbeats 4000000 in
set_option maxRecDepth 100000 in
theorem lc_record {p : Program} {l : Launch} {e : Env} {s : State} {m : MethodId} {below : List Frame} {meth : Method} {c : Code} {b L : Nat} {xs : Nat → Int32} {D : va_G} {cI cJ : ClassId} {h0 q1 q2 q3 g0 qk qs qp qw qr qo qn : Nat} {iv : Int32} {k : Nat} {cs : CS} {rs : RS} {H : Heap} {locs : List Loc} {ls : Array Slot} (hL : L ≤ 4096) (C0 : lw_At p s m meth c b L xs) (hK : va_K D vwCl (gT cI cJ) s) (hiv : iv = nI (8 * k)) (hk : 8 * k + 8 ≤ L) (hB : RB cs rs) (hI : IV rs) (hG : gG D (fun q : Nat => s.heap.size ≤ q) s.heap (wC h0 q1 q2 q3 cJ cs ++ wR g0 qk qs qp qw qr qo qn cI cJ rs) H locs) (hl : lv_has ls 4 [(0, .ref b), (1, .ref h0), (2, .ref g0), (3, .int iv)]) (K : ∀ (cs' : CS) (rs' : RS) (H : Heap) (locs : List Loc), RB cs' rs' → IV rs' → (∃ m, m ≤ 200 ∧ R_wr rs' = R_wr rs + nI m) → gG D (fun q : Nat => s.heap.size ≤ q) s.heap (wC h0 q1 q2 q3 cJ cs' ++ wR g0 qk qs qp qw qr qo qn cI cJ rs') H locs → W p l e room_1 s m #[Value.ref b] below meth c H locs 12 540 (lw_Z below #[Value.ref b] s) (F0 m 825 ls [])) : W p l e room_1 s m #[Value.ref b] below meth c H locs 12 540 (lw_Z below #[Value.ref b] s) (F0 m 705 ls []) := by
  obtain ⟨hx, hb, hr, hml, hown, hts0, hX, hbl, hlocks, hgv⟩ := C0
  have hts : ∀ w ∈ wsL_law, w.before #[Value.ref b] s = true := fun w h => hts0 w (wsL_law_in w h)
  have hA : ∀ q : Nat, s.heap.size ≤ q → (fun q : Nat => s.heap.size ≤ q) q := fun _ h => h
  have hbA : ¬ (fun q : Nat => s.heap.size ≤ q) b := Nat.not_le.mpr hbl
  have B : CallFix p m c cL_law 4 s #[Value.ref b] wsL_law RL := ⟨hx, hb, hml, hown, hts⟩
  have vin1 : vp_in (iv + (1 : Int32)) L := by rw [hiv, show (1 : Int32) = nI 1 from rfl, nI_add]; exact vp_in_nI (by omega) (by omega)
  obtain ⟨v, e1, e2⟩ := mm_record hB (xs (iv + (1 : Int32)).toNatClampNeg)
  refine lv_aload_n hx hb dL_law_705 rfl (lv_at hl 1 rfl) ?_
  refine lv_aload_n hx hb dL_law_706 rfl (lv_at hl 0 rfl) ?_
  refine lv_iload_n hx hb dL_law_707 rfl (lv_at hl 3 rfl) ?_
  refine lv_iconst (v := 1) hx hb dL_law_708 (by decide) ?_
  refine lv_iadd hx hb dL_law_709 ?_
  refine va_sld hx hb hX hbl hbA hG.2.2 vin1 dL_law_710 ?_
  refine gl_Vi (wc := wC h0 q1 q2 q3 cJ cs) (wr := wR g0 qk qs qp qw qr qo qn cI cJ rs) [0, 1, 2, 3] [4, 5, 6, 7, 8, 9, 10, 11] hA hK hl.1 hG B (c_X2_record l D cI cJ h0 q1 q2 q3 _ cs (xs (iv + (1 : Int32)).toNatClampNeg) _ e1) (cwV 1 hts gL_law_X2_record rfl rfl rfl (by decide +kernel) ⟨by decide, by decide⟩) rfl rfl rfl rfl (by decide) 0 rfl rfl rfl rfl rfl (Nat.le_of_ble_eq_true rfl) dL_law_711 ⟨by decide, by decide⟩ (fun H locs hG => ?_)
  have hG : gG D (fun q : Nat => s.heap.size ≤ q) s.heap (wR g0 qk qs qp qw qr qo qn cI cJ rs ++ wC h0 q1 q2 q3 cJ cs) H locs := hG
  refine lv_aload_n hx hb dL_law_714 rfl (lv_at hl 2 rfl) ?_
  refine lv_aload_n hx hb dL_law_715 rfl (lv_at hl 0 rfl) ?_
  refine lv_iload_n hx hb dL_law_716 rfl (lv_at hl 3 rfl) ?_
  refine lv_iconst (v := 1) hx hb dL_law_717 (by decide) ?_
  refine lv_iadd hx hb dL_law_718 ?_
  refine va_sld hx hb hX hbl hbA hG.2.2 vin1 dL_law_719 ?_
  refine gl_Vi (wc := wR g0 qk qs qp qw qr qo qn cI cJ rs) (wr := wC h0 q1 q2 q3 cJ cs) [0, 1, 2, 3, 4, 5, 6, 7] [8, 9, 10, 11] hA hK hl.1 hG B (c_X3_record l D cI cJ g0 qk qs qp qw qr qo qn _ rs (xs (iv + (1 : Int32)).toNatClampNeg) _ e2) (cwV 1 hts gL_law_X3_record rfl rfl rfl (by decide +kernel) ⟨by decide, by decide⟩) rfl rfl rfl rfl (by decide) 0 rfl rfl rfl rfl rfl (Nat.le_of_ble_eq_true rfl) dL_law_720 ⟨by decide, by decide⟩ (fun H locs hG => ?_)
  have hG : gG D (fun q : Nat => s.heap.size ≤ q) s.heap (wC h0 q1 q2 q3 cJ cs ++ wR g0 qk qs qp qw qr qo qn cI cJ rs) H locs := hG
  refine lv_icmp_eq (tgt := 825) hx hb dL_law_723 (by decide) (fun _ => ?_) (fun cq => ?_)
  · exact K cs rs H locs hB hI ⟨0, by omega, (Int32.add_zero _).symm⟩ hG
  · exact absurd rfl cq
