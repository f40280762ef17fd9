set_option maxHeartbeats 4000000 in
set_option maxRecDepth 100000 in
theorem lc_tree {p : Program} {l : Launch} {e : Env} {s : State} {m : MethodId} {below : List Frame} {meth : Method} {c : Code} {b L : Nat} {xs : Nat → Int32} {D : va_G} {cI cJ : ClassId} {h0 q1 q2 q3 g0 qk qs qp qw qr qo qn : Nat} {iv : Int32} {k : Nat} {cs : CS} {rs : RS} {H : Heap} {locs : List Loc} {ls : Array Slot} (hL : L ≤ 4096) (C0 : lw_At p s m meth c b L xs) (hK : va_K D vwCl (gT cI cJ) s) (hiv : iv = nI (8 * k)) (hk : 8 * k + 8 ≤ L) (hB : RB cs rs) (hI : IV rs) (hG : gG D (fun q : Nat => s.heap.size ≤ q) s.heap (wC h0 q1 q2 q3 cJ cs ++ wR g0 qk qs qp qw qr qo qn cI cJ rs) H locs) (hl : lv_has ls 4 [(0, .ref b), (1, .ref h0), (2, .ref g0), (3, .int iv)]) (K : ∀ (cs' : CS) (rs' : RS) (H : Heap) (locs : List Loc), RB cs' rs' → IV rs' → (∃ m, m ≤ 200 ∧ R_wr rs' = R_wr rs + nI m) → gG D (fun q : Nat => s.heap.size ≤ q) s.heap (wC h0 q1 q2 q3 cJ cs' ++ wR g0 qk qs qp qw qr qo qn cI cJ rs') H locs → W p l e room_1 s m #[Value.ref b] below meth c H locs 12 540 (lw_Z below #[Value.ref b] s) (F0 m 825 ls [])) : W p l e room_1 s m #[Value.ref b] below meth c H locs 12 540 (lw_Z below #[Value.ref b] s) (F0 m 797 ls []) := by
  obtain ⟨hx, hb, hr, hml, hown, hts0, hX, hbl, hlocks, hgv⟩ := C0
  have hts : ∀ w ∈ wsL_law, w.before #[Value.ref b] s = true := fun w h => hts0 w (wsL_law_in w h)
  have hA : ∀ q : Nat, s.heap.size ≤ q → (fun q : Nat => s.heap.size ≤ q) q := fun _ h => h
  have hbA : ¬ (fun q : Nat => s.heap.size ≤ q) b := Nat.not_le.mpr hbl
  have B : CallFix p m c cL_law 4 s #[Value.ref b] wsL_law RL := ⟨hx, hb, hml, hown, hts⟩
  obtain ⟨v, cs', rs', e1, e2, hB', hI', hw'⟩ := mm_tree hB hI
  refine lv_aload_n hx hb dL_law_797 rfl (lv_at hl 1 rfl) ?_
  refine gl_Vl (wc := wC h0 q1 q2 q3 cJ cs) (wr := wR g0 qk qs qp qw qr qo qn cI cJ rs) [0, 1, 2, 3] [4, 5, 6, 7, 8, 9, 10, 11] hA hK hl.1 hG B (c_X2_tree l D cI cJ h0 q1 q2 q3 _ cs  _ _ e1) (cwV 0 hts gL_law_X2_tree rfl rfl rfl (by decide +kernel) ⟨by decide, by decide⟩) rfl rfl rfl rfl (by decide) 0 rfl rfl rfl rfl rfl (Nat.le_of_ble_eq_true rfl) dL_law_798 ⟨by decide, by decide⟩ (fun H locs hG => ?_)
  have hG : gG D (fun q : Nat => s.heap.size ≤ q) s.heap (wR g0 qk qs qp qw qr qo qn cI cJ rs ++ wC h0 q1 q2 q3 cJ cs') H locs := hG
  refine lv_aload_n hx hb dL_law_801 rfl (lv_at hl 2 rfl) ?_
  refine gl_Vl (wc := wR g0 qk qs qp qw qr qo qn cI cJ rs) (wr := wC h0 q1 q2 q3 cJ cs') [0, 1, 2, 3, 4, 5, 6, 7] [8, 9, 10, 11] hA hK hl.1 hG B (c_X3_tree l D cI cJ g0 qk qs qp qw qr qo qn _ rs  _ _ e2) (cwV 0 hts gL_law_X3_tree rfl rfl rfl (by decide +kernel) ⟨by decide, by decide⟩) rfl rfl rfl rfl (by decide) 0 rfl rfl rfl rfl rfl (Nat.le_of_ble_eq_true rfl) dL_law_802 ⟨by decide, by decide⟩ (fun H locs hG => ?_)
  have hG : gG D (fun q : Nat => s.heap.size ≤ q) s.heap (wC h0 q1 q2 q3 cJ cs' ++ wR g0 qk qs qp qw qr qo qn cI cJ rs') H locs := hG
  refine W.lcmp hx hb dL_law_805 ?_
  refine lv_if_eq (tgt := 825) hx hb dL_law_806 (by decide) (fun _ => ?_) (fun cq => ?_)
  · exact K cs' rs' H locs hB' hI' hw' hG
  · exact absurd (by unfold lg_cmp; simp) cq
