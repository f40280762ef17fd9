set_option maxHeartbeats 4000000 in
set_option maxRecDepth 100000 in
theorem lc_rename {p : Program} {l : Launch} {e : Env} {s : State} {m : MethodId} {below : List Frame} {meth : Method} {c : Code} {b L : Nat} {xs : Nat → Int32} {D : va_G} {cI cJ : ClassId} {h0 q1 q2 q3 g0 qk qs qp qw qr qo qn : Nat} {iv : Int32} {k : Nat} {cs : CS} {rs : RS} {H : Heap} {locs : List Loc} {ls : Array Slot} (hL : L ≤ 4096) (C0 : lw_At p s m meth c b L xs) (hK : va_K D vwCl (gT cI cJ) s) (hiv : iv = nI (8 * k)) (hk : 8 * k + 8 ≤ L) (hB : RB cs rs) (hI : IV rs) (hG : gG D (fun q : Nat => s.heap.size ≤ q) s.heap (wC h0 q1 q2 q3 cJ cs ++ wR g0 qk qs qp qw qr qo qn cI cJ rs) H locs) (hl : lv_has ls 4 [(0, .ref b), (1, .ref h0), (2, .ref g0), (3, .int iv)]) (K : ∀ (cs' : CS) (rs' : RS) (H : Heap) (locs : List Loc), RB cs' rs' → IV rs' → (∃ m, m ≤ 200 ∧ R_wr rs' = R_wr rs + nI m) → gG D (fun q : Nat => s.heap.size ≤ q) s.heap (wC h0 q1 q2 q3 cJ cs' ++ wR g0 qk qs qp qw qr qo qn cI cJ rs') H locs → W p l e room_1 s m #[Value.ref b] below meth c H locs 12 540 (lw_Z below #[Value.ref b] s) (F0 m 825 ls [])) : W p l e room_1 s m #[Value.ref b] below meth c H locs 12 540 (lw_Z below #[Value.ref b] s) (F0 m 457 ls []) := by
  obtain ⟨hx, hb, hr, hml, hown, hts0, hX, hbl, hlocks, hgv⟩ := C0
  have hts : ∀ w ∈ wsL_law, w.before #[Value.ref b] s = true := fun w h => hts0 w (wsL_law_in w h)
  have hA : ∀ q : Nat, s.heap.size ≤ q → (fun q : Nat => s.heap.size ≤ q) q := fun _ h => h
  have hbA : ¬ (fun q : Nat => s.heap.size ≤ q) b := Nat.not_le.mpr hbl
  have B : CallFix p m c cL_law 4 s #[Value.ref b] wsL_law RL := ⟨hx, hb, hml, hown, hts⟩
  have vin1 : vp_in (iv + (1 : Int32)) L := by rw [hiv, show (1 : Int32) = nI 1 from rfl, nI_add]; exact vp_in_nI (by omega) (by omega)
  have vin2 : vp_in (iv + (2 : Int32)) L := by rw [hiv, show (2 : Int32) = nI 2 from rfl, nI_add]; exact vp_in_nI (by omega) (by omega)
  have vin3 : vp_in (iv + (3 : Int32)) L := by rw [hiv, show (3 : Int32) = nI 3 from rfl, nI_add]; exact vp_in_nI (by omega) (by omega)
  have vin4 : vp_in (iv + (4 : Int32)) L := by rw [hiv, show (4 : Int32) = nI 4 from rfl, nI_add]; exact vp_in_nI (by omega) (by omega)
  obtain ⟨v, cs', rs', e1, e2, hB', hI', hw'⟩ := mm_rename hB hI (xs (iv + (1 : Int32)).toNatClampNeg) (xs (iv + (2 : Int32)).toNatClampNeg) (xs (iv + (3 : Int32)).toNatClampNeg) (xs (iv + (4 : Int32)).toNatClampNeg)
  refine lv_aload_n hx hb dL_law_457 rfl (lv_at hl 1 rfl) ?_
  refine lv_aload_n hx hb dL_law_458 rfl (lv_at hl 0 rfl) ?_
  refine lv_iload_n hx hb dL_law_459 rfl (lv_at hl 3 rfl) ?_
  refine lv_iconst (v := 1) hx hb dL_law_460 (by decide) ?_
  refine lv_iadd hx hb dL_law_461 ?_
  refine va_sld hx hb hX hbl hbA hG.2.2 vin1 dL_law_462 ?_
  refine lv_aload_n hx hb dL_law_463 rfl (lv_at hl 0 rfl) ?_
  refine lv_iload_n hx hb dL_law_464 rfl (lv_at hl 3 rfl) ?_
  refine lv_iconst (v := 2) hx hb dL_law_465 (by decide) ?_
  refine lv_iadd hx hb dL_law_466 ?_
  refine va_sld hx hb hX hbl hbA hG.2.2 vin2 dL_law_467 ?_
  refine lv_aload_n hx hb dL_law_468 rfl (lv_at hl 0 rfl) ?_
  refine lv_iload_n hx hb dL_law_469 rfl (lv_at hl 3 rfl) ?_
  refine lv_iconst (v := 3) hx hb dL_law_470 (by decide) ?_
  refine lv_iadd hx hb dL_law_471 ?_
  refine va_sld hx hb hX hbl hbA hG.2.2 vin3 dL_law_472 ?_
  refine lv_aload_n hx hb dL_law_473 rfl (lv_at hl 0 rfl) ?_
  refine lv_iload_n hx hb dL_law_474 rfl (lv_at hl 3 rfl) ?_
  refine lv_iconst (v := 4) hx hb dL_law_475 (by decide) ?_
  refine lv_iadd hx hb dL_law_476 ?_
  refine va_sld hx hb hX hbl hbA hG.2.2 vin4 dL_law_477 ?_
  refine gl_Vi (wc := wC h0 q1 q2 q3 cJ cs) (wr := wR g0 qk qs qp qw qr qo qn cI cJ rs) [0, 1, 2, 3] [4, 5, 6, 7, 8, 9, 10, 11] hA hK hl.1 hG B (c_X2_rename l D cI cJ h0 q1 q2 q3 _ cs (xs (iv + (1 : Int32)).toNatClampNeg) (xs (iv + (2 : Int32)).toNatClampNeg) (xs (iv + (3 : Int32)).toNatClampNeg) (xs (iv + (4 : Int32)).toNatClampNeg) _ _ e1) (cwV 4 hts gL_law_X2_rename rfl rfl rfl (by decide +kernel) ⟨by decide, by decide⟩) rfl rfl rfl rfl (by decide) 0 rfl rfl rfl rfl rfl (Nat.le_of_ble_eq_true rfl) dL_law_478 ⟨by decide, by decide⟩ (fun H locs hG => ?_)
  have hG : gG D (fun q : Nat => s.heap.size ≤ q) s.heap (wR g0 qk qs qp qw qr qo qn cI cJ rs ++ wC h0 q1 q2 q3 cJ cs') H locs := hG
  refine lv_aload_n hx hb dL_law_481 rfl (lv_at hl 2 rfl) ?_
  refine lv_aload_n hx hb dL_law_482 rfl (lv_at hl 0 rfl) ?_
  refine lv_iload_n hx hb dL_law_483 rfl (lv_at hl 3 rfl) ?_
  refine lv_iconst (v := 1) hx hb dL_law_484 (by decide) ?_
  refine lv_iadd hx hb dL_law_485 ?_
  refine va_sld hx hb hX hbl hbA hG.2.2 vin1 dL_law_486 ?_
  refine lv_aload_n hx hb dL_law_487 rfl (lv_at hl 0 rfl) ?_
  refine lv_iload_n hx hb dL_law_488 rfl (lv_at hl 3 rfl) ?_
  refine lv_iconst (v := 2) hx hb dL_law_489 (by decide) ?_
  refine lv_iadd hx hb dL_law_490 ?_
  refine va_sld hx hb hX hbl hbA hG.2.2 vin2 dL_law_491 ?_
  refine lv_aload_n hx hb dL_law_492 rfl (lv_at hl 0 rfl) ?_
  refine lv_iload_n hx hb dL_law_493 rfl (lv_at hl 3 rfl) ?_
  refine lv_iconst (v := 3) hx hb dL_law_494 (by decide) ?_
  refine lv_iadd hx hb dL_law_495 ?_
  refine va_sld hx hb hX hbl hbA hG.2.2 vin3 dL_law_496 ?_
  refine lv_aload_n hx hb dL_law_497 rfl (lv_at hl 0 rfl) ?_
  refine lv_iload_n hx hb dL_law_498 rfl (lv_at hl 3 rfl) ?_
  refine lv_iconst (v := 4) hx hb dL_law_499 (by decide) ?_
  refine lv_iadd hx hb dL_law_500 ?_
  refine va_sld hx hb hX hbl hbA hG.2.2 vin4 dL_law_501 ?_
  refine gl_Vi (wc := wR g0 qk qs qp qw qr qo qn cI cJ rs) (wr := wC h0 q1 q2 q3 cJ cs') [0, 1, 2, 3, 4, 5, 6, 7] [8, 9, 10, 11] hA hK hl.1 hG B (c_X3_rename l D cI cJ g0 qk qs qp qw qr qo qn _ rs (xs (iv + (1 : Int32)).toNatClampNeg) (xs (iv + (2 : Int32)).toNatClampNeg) (xs (iv + (3 : Int32)).toNatClampNeg) (xs (iv + (4 : Int32)).toNatClampNeg) _ _ e2) (cwV 4 hts gL_law_X3_rename rfl rfl rfl (by decide +kernel) ⟨by decide, by decide⟩) rfl rfl rfl rfl (by decide) 0 rfl rfl rfl rfl rfl (Nat.le_of_ble_eq_true rfl) dL_law_502 ⟨by decide, by decide⟩ (fun H locs hG => ?_)
  have hG : gG D (fun q : Nat => s.heap.size ≤ q) s.heap (wC h0 q1 q2 q3 cJ cs' ++ wR g0 qk qs qp qw qr qo qn cI cJ rs') H locs := hG
  refine lv_icmp_eq (tgt := 825) hx hb dL_law_505 (by decide) (fun _ => ?_) (fun cq => ?_)
  · exact K cs' rs' H locs hB' hI' hw' hG
  · exact absurd rfl cq
set_option maxHeartbeats 4000000 in
set_option maxRecDepth 100000 in
theorem lc_step {p : Program} {l : Launch} {e : Env} {s : State} {m : MethodId} {below : List Frame} {meth : Method} {c : Code} {b L : Nat} {xs : Nat → Int32} {D : va_G} {cI cJ : ClassId} {h0 q1 q2 q3 g0 qk qs qp qw qr qo qn : Nat} {iv : Int32} {k : Nat} {cs : CS} {rs : RS} {H : Heap} {locs : List Loc} {ls : Array Slot} (hL : L ≤ 4096) (C0 : lw_At p s m meth c b L xs) (hK : va_K D vwCl (gT cI cJ) s) (hiv : iv = nI (8 * k)) (hk : 8 * k + 8 ≤ L) (hB : RB cs rs) (hI : IV rs) (hG : gG D (fun q : Nat => s.heap.size ≤ q) s.heap (wC h0 q1 q2 q3 cJ cs ++ wR g0 qk qs qp qw qr qo qn cI cJ rs) H locs) (hl : lv_has ls 4 [(0, .ref b), (1, .ref h0), (2, .ref g0), (3, .int iv)]) (K : ∀ (cs' : CS) (rs' : RS) (H : Heap) (locs : List Loc), RB cs' rs' → IV rs' → (∃ m, m ≤ 200 ∧ R_wr rs' = R_wr rs + nI m) → gG D (fun q : Nat => s.heap.size ≤ q) s.heap (wC h0 q1 q2 q3 cJ cs' ++ wR g0 qk qs qp qw qr qo qn cI cJ rs') H locs → W p l e room_1 s m #[Value.ref b] below meth c H locs 12 540 (lw_Z below #[Value.ref b] s) (F0 m 825 ls [])) : W p l e room_1 s m #[Value.ref b] below meth c H locs 12 540 (lw_Z below #[Value.ref b] s) (F0 m 510 ls []) := by
  obtain ⟨hx, hb, hr, hml, hown, hts0, hX, hbl, hlocks, hgv⟩ := C0
  have hts : ∀ w ∈ wsL_law, w.before #[Value.ref b] s = true := fun w h => hts0 w (wsL_law_in w h)
  have hA : ∀ q : Nat, s.heap.size ≤ q → (fun q : Nat => s.heap.size ≤ q) q := fun _ h => h
  have hbA : ¬ (fun q : Nat => s.heap.size ≤ q) b := Nat.not_le.mpr hbl
  have B : CallFix p m c cL_law 4 s #[Value.ref b] wsL_law RL := ⟨hx, hb, hml, hown, hts⟩
  obtain ⟨v, cs', rs', e1, e2, hB', hI', hw'⟩ := mm_step hB hI 
  refine lv_aload_n hx hb dL_law_510 rfl (lv_at hl 1 rfl) ?_
  refine gl_Vi (wc := wC h0 q1 q2 q3 cJ cs) (wr := wR g0 qk qs qp qw qr qo qn cI cJ rs) [0, 1, 2, 3] [4, 5, 6, 7, 8, 9, 10, 11] hA hK hl.1 hG B (c_X2_step l D cI cJ h0 q1 q2 q3 _ cs  _ _ e1) (cwV 0 hts gL_law_X2_step rfl rfl rfl (by decide +kernel) ⟨by decide, by decide⟩) rfl rfl rfl rfl (by decide) 0 rfl rfl rfl rfl rfl (Nat.le_of_ble_eq_true rfl) dL_law_511 ⟨by decide, by decide⟩ (fun H locs hG => ?_)
  have hG : gG D (fun q : Nat => s.heap.size ≤ q) s.heap (wR g0 qk qs qp qw qr qo qn cI cJ rs ++ wC h0 q1 q2 q3 cJ cs') H locs := hG
  refine lv_aload_n hx hb dL_law_514 rfl (lv_at hl 2 rfl) ?_
  refine gl_Vi (wc := wR g0 qk qs qp qw qr qo qn cI cJ rs) (wr := wC h0 q1 q2 q3 cJ cs') [0, 1, 2, 3, 4, 5, 6, 7] [8, 9, 10, 11] hA hK hl.1 hG B (c_X3_step l D cI cJ g0 qk qs qp qw qr qo qn _ rs  _ _ e2) (cwV 0 hts gL_law_X3_step rfl rfl rfl (by decide +kernel) ⟨by decide, by decide⟩) rfl rfl rfl rfl (by decide) 0 rfl rfl rfl rfl rfl (Nat.le_of_ble_eq_true rfl) dL_law_515 ⟨by decide, by decide⟩ (fun H locs hG => ?_)
  have hG : gG D (fun q : Nat => s.heap.size ≤ q) s.heap (wC h0 q1 q2 q3 cJ cs' ++ wR g0 qk qs qp qw qr qo qn cI cJ rs') H locs := hG
  refine lv_icmp_eq (tgt := 825) hx hb dL_law_518 (by decide) (fun _ => ?_) (fun cq => ?_)
  · exact K cs' rs' H locs hB' hI' hw' hG
  · exact absurd rfl cq
set_option maxHeartbeats 4000000 in
set_option maxRecDepth 100000 in
theorem lc_restart {p : Program} {l : Launch} {e : Env} {s : State} {m : MethodId} {below : List Frame} {meth : Method} {c : Code} {b L : Nat} {xs : Nat → Int32} {D : va_G} {cI cJ : ClassId} {h0 q1 q2 q3 g0 qk qs qp qw qr qo qn : Nat} {iv : Int32} {k : Nat} {cs : CS} {rs : RS} {H : Heap} {locs : List Loc} {ls : Array Slot} (hL : L ≤ 4096) (C0 : lw_At p s m meth c b L xs) (hK : va_K D vwCl (gT cI cJ) s) (hiv : iv = nI (8 * k)) (hk : 8 * k + 8 ≤ L) (hB : RB cs rs) (hI : IV rs) {w : Nat} (hw0 : w < 2 ^ 30) (hr0 : R_wr rs = nI w) (hG : gG D (fun q : Nat => s.heap.size ≤ q) s.heap (wC h0 q1 q2 q3 cJ cs ++ wR g0 qk qs qp qw qr qo qn cI cJ rs) H locs) (hl : lv_has ls 4 [(0, .ref b), (1, .ref h0), (2, .ref g0), (3, .int iv)]) (K : ∀ (cs' : CS) (rs' : RS) (H : Heap) (locs : List Loc), RB cs' rs' → IV rs' → (∃ m, m ≤ 200 ∧ R_wr rs' = R_wr rs + nI m) → gG D (fun q : Nat => s.heap.size ≤ q) s.heap (wC h0 q1 q2 q3 cJ cs' ++ wR g0 qk qs qp qw qr qo qn cI cJ rs') H locs → W p l e room_1 s m #[Value.ref b] below meth c H locs 12 540 (lw_Z below #[Value.ref b] s) (F0 m 825 ls [])) : W p l e room_1 s m #[Value.ref b] below meth c H locs 12 540 (lw_Z below #[Value.ref b] s) (F0 m 523 ls []) := by
  obtain ⟨hx, hb, hr, hml, hown, hts0, hX, hbl, hlocks, hgv⟩ := C0
  have hts : ∀ w ∈ wsL_law, w.before #[Value.ref b] s = true := fun w h => hts0 w (wsL_law_in w h)
  have hA : ∀ q : Nat, s.heap.size ≤ q → (fun q : Nat => s.heap.size ≤ q) q := fun _ h => h
  have hbA : ¬ (fun q : Nat => s.heap.size ≤ q) b := Nat.not_le.mpr hbl
  have B : CallFix p m c cL_law 4 s #[Value.ref b] wsL_law RL := ⟨hx, hb, hml, hown, hts⟩
  obtain ⟨v, cs', rs', e1, e2, hB', hI', hw'⟩ := mm_restart hB hI hw0 hr0
  refine lv_aload_n hx hb dL_law_523 rfl (lv_at hl 1 rfl) ?_
  refine gl_Vi (wc := wC h0 q1 q2 q3 cJ cs) (wr := wR g0 qk qs qp qw qr qo qn cI cJ rs) [0, 1, 2, 3] [4, 5, 6, 7, 8, 9, 10, 11] hA hK hl.1 hG B (c_X2_restart l D cI cJ h0 q1 q2 q3 _ cs  _ _ e1) (cwV 0 hts gL_law_X2_restart rfl rfl rfl (by decide +kernel) ⟨by decide, by decide⟩) rfl rfl rfl rfl (by decide) 0 rfl rfl rfl rfl rfl (Nat.le_of_ble_eq_true rfl) dL_law_524 ⟨by decide, by decide⟩ (fun H locs hG => ?_)
  have hG : gG D (fun q : Nat => s.heap.size ≤ q) s.heap (wR g0 qk qs qp qw qr qo qn cI cJ rs ++ wC h0 q1 q2 q3 cJ cs') H locs := hG
  refine lv_aload_n hx hb dL_law_527 rfl (lv_at hl 2 rfl) ?_
  refine gl_Vi (wc := wR g0 qk qs qp qw qr qo qn cI cJ rs) (wr := wC h0 q1 q2 q3 cJ cs') [0, 1, 2, 3, 4, 5, 6, 7] [8, 9, 10, 11] hA hK hl.1 hG B (c_X3_restart l D cI cJ g0 qk qs qp qw qr qo qn _ rs  _ _ e2) (cwV 0 hts gL_law_X3_restart rfl rfl rfl (by decide +kernel) ⟨by decide, by decide⟩) rfl rfl rfl rfl (by decide) 0 rfl rfl rfl rfl rfl (Nat.le_of_ble_eq_true rfl) dL_law_528 ⟨by decide, by decide⟩ (fun H locs hG => ?_)
  have hG : gG D (fun q : Nat => s.heap.size ≤ q) s.heap (wC h0 q1 q2 q3 cJ cs' ++ wR g0 qk qs qp qw qr qo qn cI cJ rs') H locs := hG
  refine lv_icmp_eq (tgt := 825) hx hb dL_law_531 (by decide) (fun _ => ?_) (fun cq => ?_)
  · exact K cs' rs' H locs hB' hI' hw' hG
  · exact absurd rfl cq
set_option maxHeartbeats 4000000 in
set_option maxRecDepth 100000 in
theorem lc_isDown {p : Program} {l : Launch} {e : Env} {s : State} {m : MethodId} {below : List Frame} {meth : Method} {c : Code} {b L : Nat} {xs : Nat → Int32} {D : va_G} {cI cJ : ClassId} {h0 q1 q2 q3 g0 qk qs qp qw qr qo qn : Nat} {iv : Int32} {k : Nat} {cs : CS} {rs : RS} {H : Heap} {locs : List Loc} {ls : Array Slot} (hL : L ≤ 4096) (C0 : lw_At p s m meth c b L xs) (hK : va_K D vwCl (gT cI cJ) s) (hiv : iv = nI (8 * k)) (hk : 8 * k + 8 ≤ L) (hB : RB cs rs) (hI : IV rs) (hG : gG D (fun q : Nat => s.heap.size ≤ q) s.heap (wC h0 q1 q2 q3 cJ cs ++ wR g0 qk qs qp qw qr qo qn cI cJ rs) H locs) (hl : lv_has ls 4 [(0, .ref b), (1, .ref h0), (2, .ref g0), (3, .int iv)]) (K : ∀ (cs' : CS) (rs' : RS) (H : Heap) (locs : List Loc), RB cs' rs' → IV rs' → (∃ m, m ≤ 200 ∧ R_wr rs' = R_wr rs + nI m) → gG D (fun q : Nat => s.heap.size ≤ q) s.heap (wC h0 q1 q2 q3 cJ cs' ++ wR g0 qk qs qp qw qr qo qn cI cJ rs') H locs → W p l e room_1 s m #[Value.ref b] below meth c H locs 12 540 (lw_Z below #[Value.ref b] s) (F0 m 825 ls [])) : W p l e room_1 s m #[Value.ref b] below meth c H locs 12 540 (lw_Z below #[Value.ref b] s) (F0 m 536 ls []) := by
  obtain ⟨hx, hb, hr, hml, hown, hts0, hX, hbl, hlocks, hgv⟩ := C0
  have hts : ∀ w ∈ wsL_law, w.before #[Value.ref b] s = true := fun w h => hts0 w (wsL_law_in w h)
  have hA : ∀ q : Nat, s.heap.size ≤ q → (fun q : Nat => s.heap.size ≤ q) q := fun _ h => h
  have hbA : ¬ (fun q : Nat => s.heap.size ≤ q) b := Nat.not_le.mpr hbl
  have B : CallFix p m c cL_law 4 s #[Value.ref b] wsL_law RL := ⟨hx, hb, hml, hown, hts⟩
  obtain ⟨v, e1⟩ : ∃ v, f_X2_isDown cs = v := ⟨_, rfl⟩
  have e2 : f_X3_isDown rs = v := (mm_isDown hB).symm.trans e1
  refine lv_aload_n hx hb dL_law_536 rfl (lv_at hl 1 rfl) ?_
  refine gl_Vi (wc := wC h0 q1 q2 q3 cJ cs) (wr := wR g0 qk qs qp qw qr qo qn cI cJ rs) [0, 1, 2, 3] [4, 5, 6, 7, 8, 9, 10, 11] hA hK hl.1 hG B (c_X2_isDown l D cI cJ h0 q1 q2 q3 _ cs  _ e1) (cwV 0 hts gL_law_X2_isDown rfl rfl rfl (by decide +kernel) ⟨by decide, by decide⟩) rfl rfl rfl rfl (by decide) 0 rfl rfl rfl rfl rfl (Nat.le_of_ble_eq_true rfl) dL_law_537 ⟨by decide, by decide⟩ (fun H locs hG => ?_)
  have hG : gG D (fun q : Nat => s.heap.size ≤ q) s.heap (wR g0 qk qs qp qw qr qo qn cI cJ rs ++ wC h0 q1 q2 q3 cJ cs) H locs := hG
  refine lv_aload_n hx hb dL_law_540 rfl (lv_at hl 2 rfl) ?_
  refine gl_Vi (wc := wR g0 qk qs qp qw qr qo qn cI cJ rs) (wr := wC h0 q1 q2 q3 cJ cs) [0, 1, 2, 3, 4, 5, 6, 7] [8, 9, 10, 11] hA hK hl.1 hG B (c_X3_isDown l D cI cJ g0 qk qs qp qw qr qo qn _ rs  _ e2) (cwV 0 hts gL_law_X3_isDown rfl rfl rfl (by decide +kernel) ⟨by decide, by decide⟩) rfl rfl rfl rfl (by decide) 0 rfl rfl rfl rfl rfl (Nat.le_of_ble_eq_true rfl) dL_law_541 ⟨by decide, by decide⟩ (fun H locs hG => ?_)
  have hG : gG D (fun q : Nat => s.heap.size ≤ q) s.heap (wC h0 q1 q2 q3 cJ cs ++ wR g0 qk qs qp qw qr qo qn cI cJ rs) H locs := hG
  refine lv_icmp_eq (tgt := 825) hx hb dL_law_544 (by decide) (fun _ => ?_) (fun cq => ?_)
  · exact K cs rs H locs hB hI ⟨0, by omega, (Int32.add_zero _).symm⟩ hG
  · exact absurd rfl cq
set_option maxHeartbeats 4000000 in
set_option maxRecDepth 100000 in
theorem lc_find {p : Program} {l : Launch} {e : Env} {s : State} {m : MethodId} {below : List Frame} {meth : Method} {c : Code} {b L : Nat} {xs : Nat → Int32} {D : va_G} {cI cJ : ClassId} {h0 q1 q2 q3 g0 qk qs qp qw qr qo qn : Nat} {iv : Int32} {k : Nat} {cs : CS} {rs : RS} {H : Heap} {locs : List Loc} {ls : Array Slot} (hL : L ≤ 4096) (C0 : lw_At p s m meth c b L xs) (hK : va_K D vwCl (gT cI cJ) s) (hiv : iv = nI (8 * k)) (hk : 8 * k + 8 ≤ L) (hB : RB cs rs) (hI : IV rs) (hG : gG D (fun q : Nat => s.heap.size ≤ q) s.heap (wC h0 q1 q2 q3 cJ cs ++ wR g0 qk qs qp qw qr qo qn cI cJ rs) H locs) (hl : lv_has ls 4 [(0, .ref b), (1, .ref h0), (2, .ref g0), (3, .int iv)]) (K : ∀ (cs' : CS) (rs' : RS) (H : Heap) (locs : List Loc), RB cs' rs' → IV rs' → (∃ m, m ≤ 200 ∧ R_wr rs' = R_wr rs + nI m) → gG D (fun q : Nat => s.heap.size ≤ q) s.heap (wC h0 q1 q2 q3 cJ cs' ++ wR g0 qk qs qp qw qr qo qn cI cJ rs') H locs → W p l e room_1 s m #[Value.ref b] below meth c H locs 12 540 (lw_Z below #[Value.ref b] s) (F0 m 825 ls [])) : W p l e room_1 s m #[Value.ref b] below meth c H locs 12 540 (lw_Z below #[Value.ref b] s) (F0 m 549 ls []) := by
  obtain ⟨hx, hb, hr, hml, hown, hts0, hX, hbl, hlocks, hgv⟩ := C0
  have hts : ∀ w ∈ wsL_law, w.before #[Value.ref b] s = true := fun w h => hts0 w (wsL_law_in w h)
  have hA : ∀ q : Nat, s.heap.size ≤ q → (fun q : Nat => s.heap.size ≤ q) q := fun _ h => h
  have hbA : ¬ (fun q : Nat => s.heap.size ≤ q) b := Nat.not_le.mpr hbl
  have B : CallFix p m c cL_law 4 s #[Value.ref b] wsL_law RL := ⟨hx, hb, hml, hown, hts⟩
  have vin1 : vp_in (iv + (1 : Int32)) L := by rw [hiv, show (1 : Int32) = nI 1 from rfl, nI_add]; exact vp_in_nI (by omega) (by omega)
  have vin2 : vp_in (iv + (2 : Int32)) L := by rw [hiv, show (2 : Int32) = nI 2 from rfl, nI_add]; exact vp_in_nI (by omega) (by omega)
  obtain ⟨v, e1, e2⟩ := mm_find hB hI (xs (iv + (1 : Int32)).toNatClampNeg) (xs (iv + (2 : Int32)).toNatClampNeg)
  refine lv_aload_n hx hb dL_law_549 rfl (lv_at hl 1 rfl) ?_
  refine lv_aload_n hx hb dL_law_550 rfl (lv_at hl 0 rfl) ?_
  refine lv_iload_n hx hb dL_law_551 rfl (lv_at hl 3 rfl) ?_
  refine lv_iconst (v := 1) hx hb dL_law_552 (by decide) ?_
  refine lv_iadd hx hb dL_law_553 ?_
  refine va_sld hx hb hX hbl hbA hG.2.2 vin1 dL_law_554 ?_
  refine lv_aload_n hx hb dL_law_555 rfl (lv_at hl 0 rfl) ?_
  refine lv_iload_n hx hb dL_law_556 rfl (lv_at hl 3 rfl) ?_
  refine lv_iconst (v := 2) hx hb dL_law_557 (by decide) ?_
  refine lv_iadd hx hb dL_law_558 ?_
  refine va_sld hx hb hX hbl hbA hG.2.2 vin2 dL_law_559 ?_
  refine gl_Vi (wc := wC h0 q1 q2 q3 cJ cs) (wr := wR g0 qk qs qp qw qr qo qn cI cJ rs) [0, 1, 2, 3] [4, 5, 6, 7, 8, 9, 10, 11] hA hK hl.1 hG B (c_X2_find l D cI cJ h0 q1 q2 q3 _ cs (xs (iv + (1 : Int32)).toNatClampNeg) (xs (iv + (2 : Int32)).toNatClampNeg) _ e1) (cwV 2 hts gL_law_X2_find rfl rfl rfl (by decide +kernel) ⟨by decide, by decide⟩) rfl rfl rfl rfl (by decide) 0 rfl rfl rfl rfl rfl (Nat.le_of_ble_eq_true rfl) dL_law_560 ⟨by decide, by decide⟩ (fun H locs hG => ?_)
  have hG : gG D (fun q : Nat => s.heap.size ≤ q) s.heap (wR g0 qk qs qp qw qr qo qn cI cJ rs ++ wC h0 q1 q2 q3 cJ cs) H locs := hG
  refine lv_aload_n hx hb dL_law_563 rfl (lv_at hl 2 rfl) ?_
  refine lv_aload_n hx hb dL_law_564 rfl (lv_at hl 0 rfl) ?_
  refine lv_iload_n hx hb dL_law_565 rfl (lv_at hl 3 rfl) ?_
  refine lv_iconst (v := 1) hx hb dL_law_566 (by decide) ?_
  refine lv_iadd hx hb dL_law_567 ?_
  refine va_sld hx hb hX hbl hbA hG.2.2 vin1 dL_law_568 ?_
  refine lv_aload_n hx hb dL_law_569 rfl (lv_at hl 0 rfl) ?_
  refine lv_iload_n hx hb dL_law_570 rfl (lv_at hl 3 rfl) ?_
  refine lv_iconst (v := 2) hx hb dL_law_571 (by decide) ?_
  refine lv_iadd hx hb dL_law_572 ?_
  refine va_sld hx hb hX hbl hbA hG.2.2 vin2 dL_law_573 ?_
  refine gl_Vi (wc := wR g0 qk qs qp qw qr qo qn cI cJ rs) (wr := wC h0 q1 q2 q3 cJ cs) [0, 1, 2, 3, 4, 5, 6, 7] [8, 9, 10, 11] hA hK hl.1 hG B (c_X3_find l D cI cJ g0 qk qs qp qw qr qo qn _ rs (xs (iv + (1 : Int32)).toNatClampNeg) (xs (iv + (2 : Int32)).toNatClampNeg) _ e2) (cwV 2 hts gL_law_X3_find rfl rfl rfl (by decide +kernel) ⟨by decide, by decide⟩) rfl rfl rfl rfl (by decide) 0 rfl rfl rfl rfl rfl (Nat.le_of_ble_eq_true rfl) dL_law_574 ⟨by decide, by decide⟩ (fun H locs hG => ?_)
  have hG : gG D (fun q : Nat => s.heap.size ≤ q) s.heap (wC h0 q1 q2 q3 cJ cs ++ wR g0 qk qs qp qw qr qo qn cI cJ rs) H locs := hG
  refine lv_icmp_eq (tgt := 825) hx hb dL_law_577 (by decide) (fun _ => ?_) (fun cq => ?_)
  · exact K cs rs H locs hB hI ⟨0, by omega, (Int32.add_zero _).symm⟩ hG
  · exact absurd rfl cq
