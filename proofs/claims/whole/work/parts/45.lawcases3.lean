set_option maxHeartbeats 4000000 in
set_option maxRecDepth 100000 in
theorem lc_plan {p : Program} {l : Launch} {e : Env} {s : State} {m : MethodId} {below : List Frame} {meth : Method} {c : Code} {b L : Nat} {xs : Nat → Int32} {D : va_G} {cI cJ : ClassId} {h0 q1 q2 q3 g0 qk qs qp qw qr qo qn : Nat} {iv : Int32} {k : Nat} {cs : CS} {rs : RS} {H : Heap} {locs : List Loc} {ls : Array Slot} (hL : L ≤ 4096) (C0 : lw_At p s m meth c b L xs) (hK : va_K D vwCl (gT cI cJ) s) (hiv : iv = nI (8 * k)) (hk : 8 * k + 8 ≤ L) (hB : RB cs rs) (hI : IV rs) (hG : gG D (fun q : Nat => s.heap.size ≤ q) s.heap (wC h0 q1 q2 q3 cJ cs ++ wR g0 qk qs qp qw qr qo qn cI cJ rs) H locs) (hl : lv_has ls 4 [(0, .ref b), (1, .ref h0), (2, .ref g0), (3, .int iv)]) (K : ∀ (cs' : CS) (rs' : RS) (H : Heap) (locs : List Loc), RB cs' rs' → IV rs' → (∃ m, m ≤ 200 ∧ R_wr rs' = R_wr rs + nI m) → gG D (fun q : Nat => s.heap.size ≤ q) s.heap (wC h0 q1 q2 q3 cJ cs' ++ wR g0 qk qs qp qw qr qo qn cI cJ rs') H locs → W p l e room_1 s m #[Value.ref b] below meth c H locs 12 540 (lw_Z below #[Value.ref b] s) (F0 m 825 ls [])) : W p l e room_1 s m #[Value.ref b] below meth c H locs 12 540 (lw_Z below #[Value.ref b] s) (F0 m 728 ls []) := by
  obtain ⟨hx, hb, hr, hml, hown, hts0, hX, hbl, hlocks, hgv⟩ := C0
  have hts : ∀ w ∈ wsL_law, w.before #[Value.ref b] s = true := fun w h => hts0 w (wsL_law_in w h)
  have hA : ∀ q : Nat, s.heap.size ≤ q → (fun q : Nat => s.heap.size ≤ q) q := fun _ h => h
  have hbA : ¬ (fun q : Nat => s.heap.size ≤ q) b := Nat.not_le.mpr hbl
  have B : CallFix p m c cL_law 4 s #[Value.ref b] wsL_law RL := ⟨hx, hb, hml, hown, hts⟩
  have vin1 : vp_in (iv + (1 : Int32)) L := by rw [hiv, show (1 : Int32) = nI 1 from rfl, nI_add]; exact vp_in_nI (by omega) (by omega)
  obtain ⟨v, cs', rs', e1, e2, hB', hI', hw'⟩ := mm_plan hB hI (xs (iv + (1 : Int32)).toNatClampNeg)
  refine lv_aload_n hx hb dL_law_728 rfl (lv_at hl 1 rfl) ?_
  refine lv_aload_n hx hb dL_law_729 rfl (lv_at hl 0 rfl) ?_
  refine lv_iload_n hx hb dL_law_730 rfl (lv_at hl 3 rfl) ?_
  refine lv_iconst (v := 1) hx hb dL_law_731 (by decide) ?_
  refine lv_iadd hx hb dL_law_732 ?_
  refine va_sld hx hb hX hbl hbA hG.2.2 vin1 dL_law_733 ?_
  refine gl_Vi (wc := wC h0 q1 q2 q3 cJ cs) (wr := wR g0 qk qs qp qw qr qo qn cI cJ rs) [0, 1, 2, 3] [4, 5, 6, 7, 8, 9, 10, 11] hA hK hl.1 hG B (c_X2_plan l D cI cJ h0 q1 q2 q3 _ cs (xs (iv + (1 : Int32)).toNatClampNeg) _ _ e1) (cwV 1 hts gL_law_X2_plan rfl rfl rfl (by decide +kernel) ⟨by decide, by decide⟩) rfl rfl rfl rfl (by decide) 0 rfl rfl rfl rfl rfl (Nat.le_of_ble_eq_true rfl) dL_law_734 ⟨by decide, by decide⟩ (fun H locs hG => ?_)
  have hG : gG D (fun q : Nat => s.heap.size ≤ q) s.heap (wR g0 qk qs qp qw qr qo qn cI cJ rs ++ wC h0 q1 q2 q3 cJ cs') H locs := hG
  refine lv_aload_n hx hb dL_law_737 rfl (lv_at hl 2 rfl) ?_
  refine lv_aload_n hx hb dL_law_738 rfl (lv_at hl 0 rfl) ?_
  refine lv_iload_n hx hb dL_law_739 rfl (lv_at hl 3 rfl) ?_
  refine lv_iconst (v := 1) hx hb dL_law_740 (by decide) ?_
  refine lv_iadd hx hb dL_law_741 ?_
  refine va_sld hx hb hX hbl hbA hG.2.2 vin1 dL_law_742 ?_
  refine gl_Vi (wc := wR g0 qk qs qp qw qr qo qn cI cJ rs) (wr := wC h0 q1 q2 q3 cJ cs') [0, 1, 2, 3, 4, 5, 6, 7] [8, 9, 10, 11] hA hK hl.1 hG B (c_X3_plan l D cI cJ g0 qk qs qp qw qr qo qn _ rs (xs (iv + (1 : Int32)).toNatClampNeg) _ _ e2) (cwV 1 hts gL_law_X3_plan rfl rfl rfl (by decide +kernel) ⟨by decide, by decide⟩) rfl rfl rfl rfl (by decide) 0 rfl rfl rfl rfl rfl (Nat.le_of_ble_eq_true rfl) dL_law_743 ⟨by decide, by decide⟩ (fun H locs hG => ?_)
  have hG : gG D (fun q : Nat => s.heap.size ≤ q) s.heap (wC h0 q1 q2 q3 cJ cs' ++ wR g0 qk qs qp qw qr qo qn cI cJ rs') H locs := hG
  refine lv_icmp_eq (tgt := 825) hx hb dL_law_746 (by decide) (fun _ => ?_) (fun cq => ?_)
  · exact K cs' rs' H locs hB' hI' hw' hG
  · exact absurd rfl cq
set_option maxHeartbeats 4000000 in
set_option maxRecDepth 100000 in
theorem lc_runs {p : Program} {l : Launch} {e : Env} {s : State} {m : MethodId} {below : List Frame} {meth : Method} {c : Code} {b L : Nat} {xs : Nat → Int32} {D : va_G} {cI cJ : ClassId} {h0 q1 q2 q3 g0 qk qs qp qw qr qo qn : Nat} {iv : Int32} {k : Nat} {cs : CS} {rs : RS} {H : Heap} {locs : List Loc} {ls : Array Slot} (hL : L ≤ 4096) (C0 : lw_At p s m meth c b L xs) (hK : va_K D vwCl (gT cI cJ) s) (hiv : iv = nI (8 * k)) (hk : 8 * k + 8 ≤ L) (hB : RB cs rs) (hI : IV rs) (hG : gG D (fun q : Nat => s.heap.size ≤ q) s.heap (wC h0 q1 q2 q3 cJ cs ++ wR g0 qk qs qp qw qr qo qn cI cJ rs) H locs) (hl : lv_has ls 4 [(0, .ref b), (1, .ref h0), (2, .ref g0), (3, .int iv)]) (K : ∀ (cs' : CS) (rs' : RS) (H : Heap) (locs : List Loc), RB cs' rs' → IV rs' → (∃ m, m ≤ 200 ∧ R_wr rs' = R_wr rs + nI m) → gG D (fun q : Nat => s.heap.size ≤ q) s.heap (wC h0 q1 q2 q3 cJ cs' ++ wR g0 qk qs qp qw qr qo qn cI cJ rs') H locs → W p l e room_1 s m #[Value.ref b] below meth c H locs 12 540 (lw_Z below #[Value.ref b] s) (F0 m 825 ls [])) : W p l e room_1 s m #[Value.ref b] below meth c H locs 12 540 (lw_Z below #[Value.ref b] s) (F0 m 751 ls []) := by
  obtain ⟨hx, hb, hr, hml, hown, hts0, hX, hbl, hlocks, hgv⟩ := C0
  have hts : ∀ w ∈ wsL_law, w.before #[Value.ref b] s = true := fun w h => hts0 w (wsL_law_in w h)
  have hA : ∀ q : Nat, s.heap.size ≤ q → (fun q : Nat => s.heap.size ≤ q) q := fun _ h => h
  have hbA : ¬ (fun q : Nat => s.heap.size ≤ q) b := Nat.not_le.mpr hbl
  have B : CallFix p m c cL_law 4 s #[Value.ref b] wsL_law RL := ⟨hx, hb, hml, hown, hts⟩
  have vin1 : vp_in (iv + (1 : Int32)) L := by rw [hiv, show (1 : Int32) = nI 1 from rfl, nI_add]; exact vp_in_nI (by omega) (by omega)
  obtain ⟨v, e1, e2⟩ := mm_runs hB hI (xs (iv + (1 : Int32)).toNatClampNeg)
  refine lv_aload_n hx hb dL_law_751 rfl (lv_at hl 1 rfl) ?_
  refine lv_aload_n hx hb dL_law_752 rfl (lv_at hl 0 rfl) ?_
  refine lv_iload_n hx hb dL_law_753 rfl (lv_at hl 3 rfl) ?_
  refine lv_iconst (v := 1) hx hb dL_law_754 (by decide) ?_
  refine lv_iadd hx hb dL_law_755 ?_
  refine va_sld hx hb hX hbl hbA hG.2.2 vin1 dL_law_756 ?_
  refine gl_Vi (wc := wC h0 q1 q2 q3 cJ cs) (wr := wR g0 qk qs qp qw qr qo qn cI cJ rs) [0, 1, 2, 3] [4, 5, 6, 7, 8, 9, 10, 11] hA hK hl.1 hG B (c_X2_runs l D cI cJ h0 q1 q2 q3 _ cs (xs (iv + (1 : Int32)).toNatClampNeg) _ e1) (cwV 1 hts gL_law_X2_runs rfl rfl rfl (by decide +kernel) ⟨by decide, by decide⟩) rfl rfl rfl rfl (by decide) 0 rfl rfl rfl rfl rfl (Nat.le_of_ble_eq_true rfl) dL_law_757 ⟨by decide, by decide⟩ (fun H locs hG => ?_)
  have hG : gG D (fun q : Nat => s.heap.size ≤ q) s.heap (wR g0 qk qs qp qw qr qo qn cI cJ rs ++ wC h0 q1 q2 q3 cJ cs) H locs := hG
  refine lv_aload_n hx hb dL_law_760 rfl (lv_at hl 2 rfl) ?_
  refine lv_aload_n hx hb dL_law_761 rfl (lv_at hl 0 rfl) ?_
  refine lv_iload_n hx hb dL_law_762 rfl (lv_at hl 3 rfl) ?_
  refine lv_iconst (v := 1) hx hb dL_law_763 (by decide) ?_
  refine lv_iadd hx hb dL_law_764 ?_
  refine va_sld hx hb hX hbl hbA hG.2.2 vin1 dL_law_765 ?_
  refine gl_Vi (wc := wR g0 qk qs qp qw qr qo qn cI cJ rs) (wr := wC h0 q1 q2 q3 cJ cs) [0, 1, 2, 3, 4, 5, 6, 7] [8, 9, 10, 11] hA hK hl.1 hG B (c_X3_runs l D cI cJ g0 qk qs qp qw qr qo qn _ rs (xs (iv + (1 : Int32)).toNatClampNeg) _ e2) (cwV 1 hts gL_law_X3_runs rfl rfl rfl (by decide +kernel) ⟨by decide, by decide⟩) rfl rfl rfl rfl (by decide) 0 rfl rfl rfl rfl rfl (Nat.le_of_ble_eq_true rfl) dL_law_766 ⟨by decide, by decide⟩ (fun H locs hG => ?_)
  have hG : gG D (fun q : Nat => s.heap.size ≤ q) s.heap (wC h0 q1 q2 q3 cJ cs ++ wR g0 qk qs qp qw qr qo qn cI cJ rs) H locs := hG
  refine lv_icmp_eq (tgt := 825) hx hb dL_law_769 (by decide) (fun _ => ?_) (fun cq => ?_)
  · exact K cs rs H locs hB hI ⟨0, by omega, (Int32.add_zero _).symm⟩ hG
  · exact absurd rfl cq
set_option maxHeartbeats 4000000 in
set_option maxRecDepth 100000 in
theorem lc_count {p : Program} {l : Launch} {e : Env} {s : State} {m : MethodId} {below : List Frame} {meth : Method} {c : Code} {b L : Nat} {xs : Nat → Int32} {D : va_G} {cI cJ : ClassId} {h0 q1 q2 q3 g0 qk qs qp qw qr qo qn : Nat} {iv : Int32} {k : Nat} {cs : CS} {rs : RS} {H : Heap} {locs : List Loc} {ls : Array Slot} (hL : L ≤ 4096) (C0 : lw_At p s m meth c b L xs) (hK : va_K D vwCl (gT cI cJ) s) (hiv : iv = nI (8 * k)) (hk : 8 * k + 8 ≤ L) (hB : RB cs rs) (hI : IV rs) (hG : gG D (fun q : Nat => s.heap.size ≤ q) s.heap (wC h0 q1 q2 q3 cJ cs ++ wR g0 qk qs qp qw qr qo qn cI cJ rs) H locs) (hl : lv_has ls 4 [(0, .ref b), (1, .ref h0), (2, .ref g0), (3, .int iv)]) (K : ∀ (cs' : CS) (rs' : RS) (H : Heap) (locs : List Loc), RB cs' rs' → IV rs' → (∃ m, m ≤ 200 ∧ R_wr rs' = R_wr rs + nI m) → gG D (fun q : Nat => s.heap.size ≤ q) s.heap (wC h0 q1 q2 q3 cJ cs' ++ wR g0 qk qs qp qw qr qo qn cI cJ rs') H locs → W p l e room_1 s m #[Value.ref b] below meth c H locs 12 540 (lw_Z below #[Value.ref b] s) (F0 m 825 ls [])) : W p l e room_1 s m #[Value.ref b] below meth c H locs 12 540 (lw_Z below #[Value.ref b] s) (F0 m 774 ls []) := by
  obtain ⟨hx, hb, hr, hml, hown, hts0, hX, hbl, hlocks, hgv⟩ := C0
  have hts : ∀ w ∈ wsL_law, w.before #[Value.ref b] s = true := fun w h => hts0 w (wsL_law_in w h)
  have hA : ∀ q : Nat, s.heap.size ≤ q → (fun q : Nat => s.heap.size ≤ q) q := fun _ h => h
  have hbA : ¬ (fun q : Nat => s.heap.size ≤ q) b := Nat.not_le.mpr hbl
  have B : CallFix p m c cL_law 4 s #[Value.ref b] wsL_law RL := ⟨hx, hb, hml, hown, hts⟩
  have vin1 : vp_in (iv + (1 : Int32)) L := by rw [hiv, show (1 : Int32) = nI 1 from rfl, nI_add]; exact vp_in_nI (by omega) (by omega)
  obtain ⟨v, e1, e2⟩ := mm_count hB hI (xs (iv + (1 : Int32)).toNatClampNeg)
  refine lv_aload_n hx hb dL_law_774 rfl (lv_at hl 1 rfl) ?_
  refine lv_aload_n hx hb dL_law_775 rfl (lv_at hl 0 rfl) ?_
  refine lv_iload_n hx hb dL_law_776 rfl (lv_at hl 3 rfl) ?_
  refine lv_iconst (v := 1) hx hb dL_law_777 (by decide) ?_
  refine lv_iadd hx hb dL_law_778 ?_
  refine va_sld hx hb hX hbl hbA hG.2.2 vin1 dL_law_779 ?_
  refine gl_Vi (wc := wC h0 q1 q2 q3 cJ cs) (wr := wR g0 qk qs qp qw qr qo qn cI cJ rs) [0, 1, 2, 3] [4, 5, 6, 7, 8, 9, 10, 11] hA hK hl.1 hG B (c_X2_count l D cI cJ h0 q1 q2 q3 _ cs (xs (iv + (1 : Int32)).toNatClampNeg) _ e1) (cwV 1 hts gL_law_X2_count rfl rfl rfl (by decide +kernel) ⟨by decide, by decide⟩) rfl rfl rfl rfl (by decide) 0 rfl rfl rfl rfl rfl (Nat.le_of_ble_eq_true rfl) dL_law_780 ⟨by decide, by decide⟩ (fun H locs hG => ?_)
  have hG : gG D (fun q : Nat => s.heap.size ≤ q) s.heap (wR g0 qk qs qp qw qr qo qn cI cJ rs ++ wC h0 q1 q2 q3 cJ cs) H locs := hG
  refine lv_aload_n hx hb dL_law_783 rfl (lv_at hl 2 rfl) ?_
  refine lv_aload_n hx hb dL_law_784 rfl (lv_at hl 0 rfl) ?_
  refine lv_iload_n hx hb dL_law_785 rfl (lv_at hl 3 rfl) ?_
  refine lv_iconst (v := 1) hx hb dL_law_786 (by decide) ?_
  refine lv_iadd hx hb dL_law_787 ?_
  refine va_sld hx hb hX hbl hbA hG.2.2 vin1 dL_law_788 ?_
  refine gl_Vi (wc := wR g0 qk qs qp qw qr qo qn cI cJ rs) (wr := wC h0 q1 q2 q3 cJ cs) [0, 1, 2, 3, 4, 5, 6, 7] [8, 9, 10, 11] hA hK hl.1 hG B (c_X3_count l D cI cJ g0 qk qs qp qw qr qo qn _ rs (xs (iv + (1 : Int32)).toNatClampNeg) _ e2) (cwV 1 hts gL_law_X3_count rfl rfl rfl (by decide +kernel) ⟨by decide, by decide⟩) rfl rfl rfl rfl (by decide) 0 rfl rfl rfl rfl rfl (Nat.le_of_ble_eq_true rfl) dL_law_789 ⟨by decide, by decide⟩ (fun H locs hG => ?_)
  have hG : gG D (fun q : Nat => s.heap.size ≤ q) s.heap (wC h0 q1 q2 q3 cJ cs ++ wR g0 qk qs qp qw qr qo qn cI cJ rs) H locs := hG
  refine lv_icmp_eq (tgt := 825) hx hb dL_law_792 (by decide) (fun _ => ?_) (fun cq => ?_)
  · exact K cs rs H locs hB hI ⟨0, by omega, (Int32.add_zero _).symm⟩ hG
  · exact absurd rfl cq
set_option maxHeartbeats 4000000 in
set_option maxRecDepth 100000 in
theorem lc_digest {p : Program} {l : Launch} {e : Env} {s : State} {m : MethodId} {below : List Frame} {meth : Method} {c : Code} {b L : Nat} {xs : Nat → Int32} {D : va_G} {cI cJ : ClassId} {h0 q1 q2 q3 g0 qk qs qp qw qr qo qn : Nat} {iv : Int32} {k : Nat} {cs : CS} {rs : RS} {H : Heap} {locs : List Loc} {ls : Array Slot} (hL : L ≤ 4096) (C0 : lw_At p s m meth c b L xs) (hK : va_K D vwCl (gT cI cJ) s) (hiv : iv = nI (8 * k)) (hk : 8 * k + 8 ≤ L) (hB : RB cs rs) (hI : IV rs) (hG : gG D (fun q : Nat => s.heap.size ≤ q) s.heap (wC h0 q1 q2 q3 cJ cs ++ wR g0 qk qs qp qw qr qo qn cI cJ rs) H locs) (hl : lv_has ls 4 [(0, .ref b), (1, .ref h0), (2, .ref g0), (3, .int iv)]) (K : ∀ (cs' : CS) (rs' : RS) (H : Heap) (locs : List Loc), RB cs' rs' → IV rs' → (∃ m, m ≤ 200 ∧ R_wr rs' = R_wr rs + nI m) → gG D (fun q : Nat => s.heap.size ≤ q) s.heap (wC h0 q1 q2 q3 cJ cs' ++ wR g0 qk qs qp qw qr qo qn cI cJ rs') H locs → W p l e room_1 s m #[Value.ref b] below meth c H locs 12 540 (lw_Z below #[Value.ref b] s) (F0 m 825 ls [])) : W p l e room_1 s m #[Value.ref b] below meth c H locs 12 540 (lw_Z below #[Value.ref b] s) (F0 m 811 ls []) := by
  obtain ⟨hx, hb, hr, hml, hown, hts0, hX, hbl, hlocks, hgv⟩ := C0
  have hts : ∀ w ∈ wsL_law, w.before #[Value.ref b] s = true := fun w h => hts0 w (wsL_law_in w h)
  have hA : ∀ q : Nat, s.heap.size ≤ q → (fun q : Nat => s.heap.size ≤ q) q := fun _ h => h
  have hbA : ¬ (fun q : Nat => s.heap.size ≤ q) b := Nat.not_le.mpr hbl
  have B : CallFix p m c cL_law 4 s #[Value.ref b] wsL_law RL := ⟨hx, hb, hml, hown, hts⟩
  obtain ⟨v, e1, e2⟩ := mm_digest hB
  refine lv_aload_n hx hb dL_law_811 rfl (lv_at hl 1 rfl) ?_
  refine gl_Vl (wc := wC h0 q1 q2 q3 cJ cs) (wr := wR g0 qk qs qp qw qr qo qn cI cJ rs) [0, 1, 2, 3] [4, 5, 6, 7, 8, 9, 10, 11] hA hK hl.1 hG B (c_X2_digest l D cI cJ h0 q1 q2 q3 _ cs  _ e1) (cwV 0 hts gL_law_X2_digest rfl rfl rfl (by decide +kernel) ⟨by decide, by decide⟩) rfl rfl rfl rfl (by decide) 0 rfl rfl rfl rfl rfl (Nat.le_of_ble_eq_true rfl) dL_law_812 ⟨by decide, by decide⟩ (fun H locs hG => ?_)
  have hG : gG D (fun q : Nat => s.heap.size ≤ q) s.heap (wR g0 qk qs qp qw qr qo qn cI cJ rs ++ wC h0 q1 q2 q3 cJ cs) H locs := hG
  refine lv_aload_n hx hb dL_law_815 rfl (lv_at hl 2 rfl) ?_
  refine gl_Vl (wc := wR g0 qk qs qp qw qr qo qn cI cJ rs) (wr := wC h0 q1 q2 q3 cJ cs) [0, 1, 2, 3, 4, 5, 6, 7] [8, 9, 10, 11] hA hK hl.1 hG B (c_X3_digest l D cI cJ g0 qk qs qp qw qr qo qn _ rs  _ e2) (cwV 0 hts gL_law_X3_digest rfl rfl rfl (by decide +kernel) ⟨by decide, by decide⟩) rfl rfl rfl rfl (by decide) 0 rfl rfl rfl rfl rfl (Nat.le_of_ble_eq_true rfl) dL_law_816 ⟨by decide, by decide⟩ (fun H locs hG => ?_)
  have hG : gG D (fun q : Nat => s.heap.size ≤ q) s.heap (wC h0 q1 q2 q3 cJ cs ++ wR g0 qk qs qp qw qr qo qn cI cJ rs) H locs := hG
  refine W.lcmp hx hb dL_law_819 ?_
  refine lv_if_eq (tgt := 825) hx hb dL_law_820 (by decide) (fun _ => ?_) (fun cq => ?_)
  · exact K cs rs H locs hB hI ⟨0, by omega, (Int32.add_zero _).symm⟩ hG
  · exact absurd (by unfold lg_cmp; simp) cq
