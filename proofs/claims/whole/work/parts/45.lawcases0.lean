set_option maxHeartbeats 4000000 in
set_option maxRecDepth 100000 in
theorem lc_cut {p : Program} {l : Launch} {e : Env} {s : State} {m : MethodId} {below : List Frame} {meth : Method} {c : Code} {b L : Nat} {xs : Nat → Int32} {D : va_G} {cI cJ : ClassId} {h0 q1 q2 q3 g0 qk qs qp qw qr qo qn : Nat} {iv : Int32} {k : Nat} {cs : CS} {rs : RS} {H : Heap} {locs : List Loc} {ls : Array Slot} (hL : L ≤ 4096) (C0 : lw_At p s m meth c b L xs) (hK : va_K D vwCl (gT cI cJ) s) (hiv : iv = nI (8 * k)) (hk : 8 * k + 8 ≤ L) (hB : RB cs rs) (hI : IV rs) (hG : gG D (fun q : Nat => s.heap.size ≤ q) s.heap (wC h0 q1 q2 q3 cJ cs ++ wR g0 qk qs qp qw qr qo qn cI cJ rs) H locs) (hl : lv_has ls 4 [(0, .ref b), (1, .ref h0), (2, .ref g0), (3, .int iv)]) (K : ∀ (cs' : CS) (rs' : RS) (H : Heap) (locs : List Loc), RB cs' rs' → IV rs' → (∃ m, m ≤ 200 ∧ R_wr rs' = R_wr rs + nI m) → gG D (fun q : Nat => s.heap.size ≤ q) s.heap (wC h0 q1 q2 q3 cJ cs' ++ wR g0 qk qs qp qw qr qo qn cI cJ rs') H locs → W p l e room_1 s m #[Value.ref b] below meth c H locs 12 540 (lw_Z below #[Value.ref b] s) (F0 m 825 ls [])) : W p l e room_1 s m #[Value.ref b] below meth c H locs 12 540 (lw_Z below #[Value.ref b] s) (F0 m 128 ls []) := by
  obtain ⟨hx, hb, hr, hml, hown, hts0, hX, hbl, hlocks, hgv⟩ := C0
  have hts : ∀ w ∈ wsL_law, w.before #[Value.ref b] s = true := fun w h => hts0 w (wsL_law_in w h)
  have hA : ∀ q : Nat, s.heap.size ≤ q → (fun q : Nat => s.heap.size ≤ q) q := fun _ h => h
  have hbA : ¬ (fun q : Nat => s.heap.size ≤ q) b := Nat.not_le.mpr hbl
  have B : CallFix p m c cL_law 4 s #[Value.ref b] wsL_law RL := ⟨hx, hb, hml, hown, hts⟩
  have vin1 : vp_in (iv + (1 : Int32)) L := by rw [hiv, show (1 : Int32) = nI 1 from rfl, nI_add]; exact vp_in_nI (by omega) (by omega)
  obtain ⟨v, cs', rs', e1, e2, hB', hI', hw'⟩ := mm_cut hB hI (xs (iv + (1 : Int32)).toNatClampNeg)
  have e1 := Option.some.inj e1
  have e2 := Option.some.inj e2
  refine lv_aload_n hx hb dL_law_128 rfl (lv_at hl 1 rfl) ?_
  refine lv_aload_n hx hb dL_law_129 rfl (lv_at hl 0 rfl) ?_
  refine lv_iload_n hx hb dL_law_130 rfl (lv_at hl 3 rfl) ?_
  refine lv_iconst (v := 1) hx hb dL_law_131 (by decide) ?_
  refine lv_iadd hx hb dL_law_132 ?_
  refine va_sld hx hb hX hbl hbA hG.2.2 vin1 dL_law_133 ?_
  refine gl_Vi (wc := wC h0 q1 q2 q3 cJ cs) (wr := wR g0 qk qs qp qw qr qo qn cI cJ rs) [0, 1, 2, 3] [4, 5, 6, 7, 8, 9, 10, 11] hA hK hl.1 hG B (c_X2_cut l D cI cJ h0 q1 q2 q3 _ cs (xs (iv + (1 : Int32)).toNatClampNeg) _ _ e1) (cwV 1 hts gL_law_X2_cut rfl rfl rfl (by decide +kernel) ⟨by decide, by decide⟩) rfl rfl rfl rfl (by decide) 0 rfl rfl rfl rfl rfl (Nat.le_of_ble_eq_true rfl) dL_law_134 ⟨by decide, by decide⟩ (fun H locs hG => ?_)
  have hG : gG D (fun q : Nat => s.heap.size ≤ q) s.heap (wR g0 qk qs qp qw qr qo qn cI cJ rs ++ wC h0 q1 q2 q3 cJ cs') H locs := hG
  refine lv_aload_n hx hb dL_law_137 rfl (lv_at hl 2 rfl) ?_
  refine lv_aload_n hx hb dL_law_138 rfl (lv_at hl 0 rfl) ?_
  refine lv_iload_n hx hb dL_law_139 rfl (lv_at hl 3 rfl) ?_
  refine lv_iconst (v := 1) hx hb dL_law_140 (by decide) ?_
  refine lv_iadd hx hb dL_law_141 ?_
  refine va_sld hx hb hX hbl hbA hG.2.2 vin1 dL_law_142 ?_
  refine gl_Vi (wc := wR g0 qk qs qp qw qr qo qn cI cJ rs) (wr := wC h0 q1 q2 q3 cJ cs') [0, 1, 2, 3, 4, 5, 6, 7] [8, 9, 10, 11] hA hK hl.1 hG B (c_X3_cut l D cI cJ g0 qk qs qp qw qr qo qn _ rs (xs (iv + (1 : Int32)).toNatClampNeg) _ _ e2) (cwV 1 hts gL_law_X3_cut rfl rfl rfl (by decide +kernel) ⟨by decide, by decide⟩) rfl rfl rfl rfl (by decide) 0 rfl rfl rfl rfl rfl (Nat.le_of_ble_eq_true rfl) dL_law_143 ⟨by decide, by decide⟩ (fun H locs hG => ?_)
  have hG : gG D (fun q : Nat => s.heap.size ≤ q) s.heap (wC h0 q1 q2 q3 cJ cs' ++ wR g0 qk qs qp qw qr qo qn cI cJ rs') H locs := hG
  refine lv_icmp_eq (tgt := 825) hx hb dL_law_146 (by decide) (fun _ => ?_) (fun cq => ?_)
  · exact K cs' rs' H locs hB' hI' hw' hG
  · exact absurd rfl cq
set_option maxHeartbeats 4000000 in
set_option maxRecDepth 100000 in
theorem lc_make {p : Program} {l : Launch} {e : Env} {s : State} {m : MethodId} {below : List Frame} {meth : Method} {c : Code} {b L : Nat} {xs : Nat → Int32} {D : va_G} {cI cJ : ClassId} {h0 q1 q2 q3 g0 qk qs qp qw qr qo qn : Nat} {iv : Int32} {k : Nat} {cs : CS} {rs : RS} {H : Heap} {locs : List Loc} {ls : Array Slot} (hL : L ≤ 4096) (C0 : lw_At p s m meth c b L xs) (hK : va_K D vwCl (gT cI cJ) s) (hiv : iv = nI (8 * k)) (hk : 8 * k + 8 ≤ L) (hB : RB cs rs) (hI : IV rs) (hG : gG D (fun q : Nat => s.heap.size ≤ q) s.heap (wC h0 q1 q2 q3 cJ cs ++ wR g0 qk qs qp qw qr qo qn cI cJ rs) H locs) (hl : lv_has ls 4 [(0, .ref b), (1, .ref h0), (2, .ref g0), (3, .int iv)]) (K : ∀ (cs' : CS) (rs' : RS) (H : Heap) (locs : List Loc), RB cs' rs' → IV rs' → (∃ m, m ≤ 200 ∧ R_wr rs' = R_wr rs + nI m) → gG D (fun q : Nat => s.heap.size ≤ q) s.heap (wC h0 q1 q2 q3 cJ cs' ++ wR g0 qk qs qp qw qr qo qn cI cJ rs') H locs → W p l e room_1 s m #[Value.ref b] below meth c H locs 12 540 (lw_Z below #[Value.ref b] s) (F0 m 825 ls [])) : W p l e room_1 s m #[Value.ref b] below meth c H locs 12 540 (lw_Z below #[Value.ref b] s) (F0 m 151 ls []) := by
  obtain ⟨hx, hb, hr, hml, hown, hts0, hX, hbl, hlocks, hgv⟩ := C0
  have hts : ∀ w ∈ wsL_law, w.before #[Value.ref b] s = true := fun w h => hts0 w (wsL_law_in w h)
  have hA : ∀ q : Nat, s.heap.size ≤ q → (fun q : Nat => s.heap.size ≤ q) q := fun _ h => h
  have hbA : ¬ (fun q : Nat => s.heap.size ≤ q) b := Nat.not_le.mpr hbl
  have B : CallFix p m c cL_law 4 s #[Value.ref b] wsL_law RL := ⟨hx, hb, hml, hown, hts⟩
  have vin1 : vp_in (iv + (1 : Int32)) L := by rw [hiv, show (1 : Int32) = nI 1 from rfl, nI_add]; exact vp_in_nI (by omega) (by omega)
  have vin2 : vp_in (iv + (2 : Int32)) L := by rw [hiv, show (2 : Int32) = nI 2 from rfl, nI_add]; exact vp_in_nI (by omega) (by omega)
  have vin3 : vp_in (iv + (3 : Int32)) L := by rw [hiv, show (3 : Int32) = nI 3 from rfl, nI_add]; exact vp_in_nI (by omega) (by omega)
  obtain ⟨v, cs', rs', e1, e2, hB', hI', hw'⟩ := mm_make hB hI (xs (iv + (1 : Int32)).toNatClampNeg) (xs (iv + (2 : Int32)).toNatClampNeg) (xs (iv + (3 : Int32)).toNatClampNeg)
  refine lv_aload_n hx hb dL_law_151 rfl (lv_at hl 1 rfl) ?_
  refine lv_aload_n hx hb dL_law_152 rfl (lv_at hl 0 rfl) ?_
  refine lv_iload_n hx hb dL_law_153 rfl (lv_at hl 3 rfl) ?_
  refine lv_iconst (v := 1) hx hb dL_law_154 (by decide) ?_
  refine lv_iadd hx hb dL_law_155 ?_
  refine va_sld hx hb hX hbl hbA hG.2.2 vin1 dL_law_156 ?_
  refine lv_aload_n hx hb dL_law_157 rfl (lv_at hl 0 rfl) ?_
  refine lv_iload_n hx hb dL_law_158 rfl (lv_at hl 3 rfl) ?_
  refine lv_iconst (v := 2) hx hb dL_law_159 (by decide) ?_
  refine lv_iadd hx hb dL_law_160 ?_
  refine va_sld hx hb hX hbl hbA hG.2.2 vin2 dL_law_161 ?_
  refine lv_aload_n hx hb dL_law_162 rfl (lv_at hl 0 rfl) ?_
  refine lv_iload_n hx hb dL_law_163 rfl (lv_at hl 3 rfl) ?_
  refine lv_iconst (v := 3) hx hb dL_law_164 (by decide) ?_
  refine lv_iadd hx hb dL_law_165 ?_
  refine va_sld hx hb hX hbl hbA hG.2.2 vin3 dL_law_166 ?_
  refine gl_Vi (wc := wC h0 q1 q2 q3 cJ cs) (wr := wR g0 qk qs qp qw qr qo qn cI cJ rs) [0, 1, 2, 3] [4, 5, 6, 7, 8, 9, 10, 11] hA hK hl.1 hG B (c_X2_make l D cI cJ h0 q1 q2 q3 _ cs (xs (iv + (1 : Int32)).toNatClampNeg) (xs (iv + (2 : Int32)).toNatClampNeg) (xs (iv + (3 : Int32)).toNatClampNeg) _ _ e1) (cwV 3 hts gL_law_X2_make rfl rfl rfl (by decide +kernel) ⟨by decide, by decide⟩) rfl rfl rfl rfl (by decide) 0 rfl rfl rfl rfl rfl (Nat.le_of_ble_eq_true rfl) dL_law_167 ⟨by decide, by decide⟩ (fun H locs hG => ?_)
  have hG : gG D (fun q : Nat => s.heap.size ≤ q) s.heap (wR g0 qk qs qp qw qr qo qn cI cJ rs ++ wC h0 q1 q2 q3 cJ cs') H locs := hG
  refine lv_aload_n hx hb dL_law_170 rfl (lv_at hl 2 rfl) ?_
  refine lv_aload_n hx hb dL_law_171 rfl (lv_at hl 0 rfl) ?_
  refine lv_iload_n hx hb dL_law_172 rfl (lv_at hl 3 rfl) ?_
  refine lv_iconst (v := 1) hx hb dL_law_173 (by decide) ?_
  refine lv_iadd hx hb dL_law_174 ?_
  refine va_sld hx hb hX hbl hbA hG.2.2 vin1 dL_law_175 ?_
  refine lv_aload_n hx hb dL_law_176 rfl (lv_at hl 0 rfl) ?_
  refine lv_iload_n hx hb dL_law_177 rfl (lv_at hl 3 rfl) ?_
  refine lv_iconst (v := 2) hx hb dL_law_178 (by decide) ?_
  refine lv_iadd hx hb dL_law_179 ?_
  refine va_sld hx hb hX hbl hbA hG.2.2 vin2 dL_law_180 ?_
  refine lv_aload_n hx hb dL_law_181 rfl (lv_at hl 0 rfl) ?_
  refine lv_iload_n hx hb dL_law_182 rfl (lv_at hl 3 rfl) ?_
  refine lv_iconst (v := 3) hx hb dL_law_183 (by decide) ?_
  refine lv_iadd hx hb dL_law_184 ?_
  refine va_sld hx hb hX hbl hbA hG.2.2 vin3 dL_law_185 ?_
  refine gl_Vi (wc := wR g0 qk qs qp qw qr qo qn cI cJ rs) (wr := wC h0 q1 q2 q3 cJ cs') [0, 1, 2, 3, 4, 5, 6, 7] [8, 9, 10, 11] hA hK hl.1 hG B (c_X3_make l D cI cJ g0 qk qs qp qw qr qo qn _ rs (xs (iv + (1 : Int32)).toNatClampNeg) (xs (iv + (2 : Int32)).toNatClampNeg) (xs (iv + (3 : Int32)).toNatClampNeg) _ _ e2) (cwV 3 hts gL_law_X3_make rfl rfl rfl (by decide +kernel) ⟨by decide, by decide⟩) rfl rfl rfl rfl (by decide) 0 rfl rfl rfl rfl rfl (Nat.le_of_ble_eq_true rfl) dL_law_186 ⟨by decide, by decide⟩ (fun H locs hG => ?_)
  have hG : gG D (fun q : Nat => s.heap.size ≤ q) s.heap (wC h0 q1 q2 q3 cJ cs' ++ wR g0 qk qs qp qw qr qo qn cI cJ rs') H locs := hG
  refine lv_icmp_eq (tgt := 825) hx hb dL_law_189 (by decide) (fun _ => ?_) (fun cq => ?_)
  · exact K cs' rs' H locs hB' hI' hw' hG
  · exact absurd rfl cq
set_option maxHeartbeats 4000000 in
set_option maxRecDepth 100000 in
theorem lc_append {p : Program} {l : Launch} {e : Env} {s : State} {m : MethodId} {below : List Frame} {meth : Method} {c : Code} {b L : Nat} {xs : Nat → Int32} {D : va_G} {cI cJ : ClassId} {h0 q1 q2 q3 g0 qk qs qp qw qr qo qn : Nat} {iv : Int32} {k : Nat} {cs : CS} {rs : RS} {H : Heap} {locs : List Loc} {ls : Array Slot} (hL : L ≤ 4096) (C0 : lw_At p s m meth c b L xs) (hK : va_K D vwCl (gT cI cJ) s) (hiv : iv = nI (8 * k)) (hk : 8 * k + 8 ≤ L) (hB : RB cs rs) (hI : IV rs) (hG : gG D (fun q : Nat => s.heap.size ≤ q) s.heap (wC h0 q1 q2 q3 cJ cs ++ wR g0 qk qs qp qw qr qo qn cI cJ rs) H locs) (hl : lv_has ls 4 [(0, .ref b), (1, .ref h0), (2, .ref g0), (3, .int iv)]) (K : ∀ (cs' : CS) (rs' : RS) (H : Heap) (locs : List Loc), RB cs' rs' → IV rs' → (∃ m, m ≤ 200 ∧ R_wr rs' = R_wr rs + nI m) → gG D (fun q : Nat => s.heap.size ≤ q) s.heap (wC h0 q1 q2 q3 cJ cs' ++ wR g0 qk qs qp qw qr qo qn cI cJ rs') H locs → W p l e room_1 s m #[Value.ref b] below meth c H locs 12 540 (lw_Z below #[Value.ref b] s) (F0 m 825 ls [])) : W p l e room_1 s m #[Value.ref b] below meth c H locs 12 540 (lw_Z below #[Value.ref b] s) (F0 m 194 ls []) := by
  obtain ⟨hx, hb, hr, hml, hown, hts0, hX, hbl, hlocks, hgv⟩ := C0
  have hts : ∀ w ∈ wsL_law, w.before #[Value.ref b] s = true := fun w h => hts0 w (wsL_law_in w h)
  have hA : ∀ q : Nat, s.heap.size ≤ q → (fun q : Nat => s.heap.size ≤ q) q := fun _ h => h
  have hbA : ¬ (fun q : Nat => s.heap.size ≤ q) b := Nat.not_le.mpr hbl
  have B : CallFix p m c cL_law 4 s #[Value.ref b] wsL_law RL := ⟨hx, hb, hml, hown, hts⟩
  have vin1 : vp_in (iv + (1 : Int32)) L := by rw [hiv, show (1 : Int32) = nI 1 from rfl, nI_add]; exact vp_in_nI (by omega) (by omega)
  have vin2 : vp_in (iv + (2 : Int32)) L := by rw [hiv, show (2 : Int32) = nI 2 from rfl, nI_add]; exact vp_in_nI (by omega) (by omega)
  have vin3 : vp_in (iv + (3 : Int32)) L := by rw [hiv, show (3 : Int32) = nI 3 from rfl, nI_add]; exact vp_in_nI (by omega) (by omega)
  have vin4 : vp_in (iv + (4 : Int32)) L := by rw [hiv, show (4 : Int32) = nI 4 from rfl, nI_add]; exact vp_in_nI (by omega) (by omega)
  have vin5 : vp_in (iv + (5 : Int32)) L := by rw [hiv, show (5 : Int32) = nI 5 from rfl, nI_add]; exact vp_in_nI (by omega) (by omega)
  have vin6 : vp_in (iv + (6 : Int32)) L := by rw [hiv, show (6 : Int32) = nI 6 from rfl, nI_add]; exact vp_in_nI (by omega) (by omega)
  have vin7 : vp_in (iv + (7 : Int32)) L := by rw [hiv, show (7 : Int32) = nI 7 from rfl, nI_add]; exact vp_in_nI (by omega) (by omega)
  obtain ⟨v, cs', rs', e1, e2, hB', hI', hw'⟩ := mm_append hB hI (xs (iv + (1 : Int32)).toNatClampNeg) (((xs (iv + (2 : Int32)).toNatClampNeg).toInt64 <<< ((32 : Int32).toInt64 &&& 63)) ||| ((xs (iv + (3 : Int32)).toNatClampNeg).toInt64 &&& (4294967295 : Int64))) (((xs (iv + (4 : Int32)).toNatClampNeg).toInt64 <<< ((32 : Int32).toInt64 &&& 63)) ||| ((xs (iv + (5 : Int32)).toNatClampNeg).toInt64 &&& (4294967295 : Int64))) (((xs (iv + (6 : Int32)).toNatClampNeg).toInt64 <<< ((32 : Int32).toInt64 &&& 63)) ||| ((xs (iv + (7 : Int32)).toNatClampNeg).toInt64 &&& (4294967295 : Int64)))
  refine lv_aload_n hx hb dL_law_194 rfl (lv_at hl 1 rfl) ?_
  refine lv_aload_n hx hb dL_law_195 rfl (lv_at hl 0 rfl) ?_
  refine lv_iload_n hx hb dL_law_196 rfl (lv_at hl 3 rfl) ?_
  refine lv_iconst (v := 1) hx hb dL_law_197 (by decide) ?_
  refine lv_iadd hx hb dL_law_198 ?_
  refine va_sld hx hb hX hbl hbA hG.2.2 vin1 dL_law_199 ?_
  refine lv_aload_n hx hb dL_law_200 rfl (lv_at hl 0 rfl) ?_
  refine lv_iload_n hx hb dL_law_201 rfl (lv_at hl 3 rfl) ?_
  refine lv_iconst (v := 2) hx hb dL_law_202 (by decide) ?_
  refine lv_iadd hx hb dL_law_203 ?_
  refine va_sld hx hb hX hbl hbA hG.2.2 vin2 dL_law_204 ?_
  refine lv_i2l hx hb dL_law_205 rfl ?_
  refine lv_bipush (v := 32) hx hb dL_law_206 (by decide) ?_
  refine lv_lshl hx hb dL_law_208 rfl ?_
  refine lv_aload_n hx hb dL_law_209 rfl (lv_at hl 0 rfl) ?_
  refine lv_iload_n hx hb dL_law_210 rfl (lv_at hl 3 rfl) ?_
  refine lv_iconst (v := 3) hx hb dL_law_211 (by decide) ?_
  refine lv_iadd hx hb dL_law_212 ?_
  refine va_sld hx hb hX hbl hbA hG.2.2 vin3 dL_law_213 ?_
  refine lv_i2l hx hb dL_law_214 rfl ?_
  refine lv_ldc2 (v := 4294967295) hx hb B.2.2.2.1 (hts (.constantLong RL 23 (4294967295)) (by decide +kernel)) dL_law_215 ?_
  refine lv_land hx hb dL_law_218 ?_
  refine lv_lor hx hb dL_law_219 ?_
  refine lv_aload_n hx hb dL_law_220 rfl (lv_at hl 0 rfl) ?_
  refine lv_iload_n hx hb dL_law_221 rfl (lv_at hl 3 rfl) ?_
  refine lv_iconst (v := 4) hx hb dL_law_222 (by decide) ?_
  refine lv_iadd hx hb dL_law_223 ?_
  refine va_sld hx hb hX hbl hbA hG.2.2 vin4 dL_law_224 ?_
  refine lv_i2l hx hb dL_law_225 rfl ?_
  refine lv_bipush (v := 32) hx hb dL_law_226 (by decide) ?_
  refine lv_lshl hx hb dL_law_228 rfl ?_
  refine lv_aload_n hx hb dL_law_229 rfl (lv_at hl 0 rfl) ?_
  refine lv_iload_n hx hb dL_law_230 rfl (lv_at hl 3 rfl) ?_
  refine lv_iconst (v := 5) hx hb dL_law_231 (by decide) ?_
  refine lv_iadd hx hb dL_law_232 ?_
  refine va_sld hx hb hX hbl hbA hG.2.2 vin5 dL_law_233 ?_
  refine lv_i2l hx hb dL_law_234 rfl ?_
  refine lv_ldc2 (v := 4294967295) hx hb B.2.2.2.1 (hts (.constantLong RL 23 (4294967295)) (by decide +kernel)) dL_law_235 ?_
  refine lv_land hx hb dL_law_238 ?_
  refine lv_lor hx hb dL_law_239 ?_
  refine lv_aload_n hx hb dL_law_240 rfl (lv_at hl 0 rfl) ?_
  refine lv_iload_n hx hb dL_law_241 rfl (lv_at hl 3 rfl) ?_
  refine lv_bipush (v := 6) hx hb dL_law_242 (by decide) ?_
  refine lv_iadd hx hb dL_law_244 ?_
  refine va_sld hx hb hX hbl hbA hG.2.2 vin6 dL_law_245 ?_
  refine lv_i2l hx hb dL_law_246 rfl ?_
  refine lv_bipush (v := 32) hx hb dL_law_247 (by decide) ?_
  refine lv_lshl hx hb dL_law_249 rfl ?_
  refine lv_aload_n hx hb dL_law_250 rfl (lv_at hl 0 rfl) ?_
  refine lv_iload_n hx hb dL_law_251 rfl (lv_at hl 3 rfl) ?_
  refine lv_bipush (v := 7) hx hb dL_law_252 (by decide) ?_
  refine lv_iadd hx hb dL_law_254 ?_
  refine va_sld hx hb hX hbl hbA hG.2.2 vin7 dL_law_255 ?_
  refine lv_i2l hx hb dL_law_256 rfl ?_
  refine lv_ldc2 (v := 4294967295) hx hb B.2.2.2.1 (hts (.constantLong RL 23 (4294967295)) (by decide +kernel)) dL_law_257 ?_
  refine lv_land hx hb dL_law_260 ?_
  refine lv_lor hx hb dL_law_261 ?_
  refine gl_Vi (wc := wC h0 q1 q2 q3 cJ cs) (wr := wR g0 qk qs qp qw qr qo qn cI cJ rs) [0, 1, 2, 3] [4, 5, 6, 7, 8, 9, 10, 11] hA hK hl.1 hG B (c_X2_append l D cI cJ h0 q1 q2 q3 _ cs (xs (iv + (1 : Int32)).toNatClampNeg) (((xs (iv + (2 : Int32)).toNatClampNeg).toInt64 <<< ((32 : Int32).toInt64 &&& 63)) ||| ((xs (iv + (3 : Int32)).toNatClampNeg).toInt64 &&& (4294967295 : Int64))) (((xs (iv + (4 : Int32)).toNatClampNeg).toInt64 <<< ((32 : Int32).toInt64 &&& 63)) ||| ((xs (iv + (5 : Int32)).toNatClampNeg).toInt64 &&& (4294967295 : Int64))) (((xs (iv + (6 : Int32)).toNatClampNeg).toInt64 <<< ((32 : Int32).toInt64 &&& 63)) ||| ((xs (iv + (7 : Int32)).toNatClampNeg).toInt64 &&& (4294967295 : Int64))) _ _ e1) (cwV 4 hts gL_law_X2_append rfl rfl rfl (by decide +kernel) ⟨by decide, by decide⟩) rfl rfl rfl rfl (by decide) 0 rfl rfl rfl rfl rfl (Nat.le_of_ble_eq_true rfl) dL_law_262 ⟨by decide, by decide⟩ (fun H locs hG => ?_)
  have hG : gG D (fun q : Nat => s.heap.size ≤ q) s.heap (wR g0 qk qs qp qw qr qo qn cI cJ rs ++ wC h0 q1 q2 q3 cJ cs') H locs := hG
  refine lv_aload_n hx hb dL_law_265 rfl (lv_at hl 2 rfl) ?_
  refine lv_aload_n hx hb dL_law_266 rfl (lv_at hl 0 rfl) ?_
  refine lv_iload_n hx hb dL_law_267 rfl (lv_at hl 3 rfl) ?_
  refine lv_iconst (v := 1) hx hb dL_law_268 (by decide) ?_
  refine lv_iadd hx hb dL_law_269 ?_
  refine va_sld hx hb hX hbl hbA hG.2.2 vin1 dL_law_270 ?_
  refine lv_aload_n hx hb dL_law_271 rfl (lv_at hl 0 rfl) ?_
  refine lv_iload_n hx hb dL_law_272 rfl (lv_at hl 3 rfl) ?_
  refine lv_iconst (v := 2) hx hb dL_law_273 (by decide) ?_
  refine lv_iadd hx hb dL_law_274 ?_
  refine va_sld hx hb hX hbl hbA hG.2.2 vin2 dL_law_275 ?_
  refine lv_i2l hx hb dL_law_276 rfl ?_
  refine lv_bipush (v := 32) hx hb dL_law_277 (by decide) ?_
  refine lv_lshl hx hb dL_law_279 rfl ?_
  refine lv_aload_n hx hb dL_law_280 rfl (lv_at hl 0 rfl) ?_
  refine lv_iload_n hx hb dL_law_281 rfl (lv_at hl 3 rfl) ?_
  refine lv_iconst (v := 3) hx hb dL_law_282 (by decide) ?_
  refine lv_iadd hx hb dL_law_283 ?_
  refine va_sld hx hb hX hbl hbA hG.2.2 vin3 dL_law_284 ?_
  refine lv_i2l hx hb dL_law_285 rfl ?_
  refine lv_ldc2 (v := 4294967295) hx hb B.2.2.2.1 (hts (.constantLong RL 23 (4294967295)) (by decide +kernel)) dL_law_286 ?_
  refine lv_land hx hb dL_law_289 ?_
  refine lv_lor hx hb dL_law_290 ?_
  refine lv_aload_n hx hb dL_law_291 rfl (lv_at hl 0 rfl) ?_
  refine lv_iload_n hx hb dL_law_292 rfl (lv_at hl 3 rfl) ?_
  refine lv_iconst (v := 4) hx hb dL_law_293 (by decide) ?_
  refine lv_iadd hx hb dL_law_294 ?_
  refine va_sld hx hb hX hbl hbA hG.2.2 vin4 dL_law_295 ?_
  refine lv_i2l hx hb dL_law_296 rfl ?_
  refine lv_bipush (v := 32) hx hb dL_law_297 (by decide) ?_
  refine lv_lshl hx hb dL_law_299 rfl ?_
  refine lv_aload_n hx hb dL_law_300 rfl (lv_at hl 0 rfl) ?_
  refine lv_iload_n hx hb dL_law_301 rfl (lv_at hl 3 rfl) ?_
  refine lv_iconst (v := 5) hx hb dL_law_302 (by decide) ?_
  refine lv_iadd hx hb dL_law_303 ?_
  refine va_sld hx hb hX hbl hbA hG.2.2 vin5 dL_law_304 ?_
  refine lv_i2l hx hb dL_law_305 rfl ?_
  refine lv_ldc2 (v := 4294967295) hx hb B.2.2.2.1 (hts (.constantLong RL 23 (4294967295)) (by decide +kernel)) dL_law_306 ?_
  refine lv_land hx hb dL_law_309 ?_
  refine lv_lor hx hb dL_law_310 ?_
  refine lv_aload_n hx hb dL_law_311 rfl (lv_at hl 0 rfl) ?_
  refine lv_iload_n hx hb dL_law_312 rfl (lv_at hl 3 rfl) ?_
  refine lv_bipush (v := 6) hx hb dL_law_313 (by decide) ?_
  refine lv_iadd hx hb dL_law_315 ?_
  refine va_sld hx hb hX hbl hbA hG.2.2 vin6 dL_law_316 ?_
  refine lv_i2l hx hb dL_law_317 rfl ?_
  refine lv_bipush (v := 32) hx hb dL_law_318 (by decide) ?_
  refine lv_lshl hx hb dL_law_320 rfl ?_
  refine lv_aload_n hx hb dL_law_321 rfl (lv_at hl 0 rfl) ?_
  refine lv_iload_n hx hb dL_law_322 rfl (lv_at hl 3 rfl) ?_
  refine lv_bipush (v := 7) hx hb dL_law_323 (by decide) ?_
  refine lv_iadd hx hb dL_law_325 ?_
  refine va_sld hx hb hX hbl hbA hG.2.2 vin7 dL_law_326 ?_
  refine lv_i2l hx hb dL_law_327 rfl ?_
  refine lv_ldc2 (v := 4294967295) hx hb B.2.2.2.1 (hts (.constantLong RL 23 (4294967295)) (by decide +kernel)) dL_law_328 ?_
  refine lv_land hx hb dL_law_331 ?_
  refine lv_lor hx hb dL_law_332 ?_
  refine gl_Vi (wc := wR g0 qk qs qp qw qr qo qn cI cJ rs) (wr := wC h0 q1 q2 q3 cJ cs') [0, 1, 2, 3, 4, 5, 6, 7] [8, 9, 10, 11] hA hK hl.1 hG B (c_X3_append l D cI cJ g0 qk qs qp qw qr qo qn _ rs (xs (iv + (1 : Int32)).toNatClampNeg) (((xs (iv + (2 : Int32)).toNatClampNeg).toInt64 <<< ((32 : Int32).toInt64 &&& 63)) ||| ((xs (iv + (3 : Int32)).toNatClampNeg).toInt64 &&& (4294967295 : Int64))) (((xs (iv + (4 : Int32)).toNatClampNeg).toInt64 <<< ((32 : Int32).toInt64 &&& 63)) ||| ((xs (iv + (5 : Int32)).toNatClampNeg).toInt64 &&& (4294967295 : Int64))) (((xs (iv + (6 : Int32)).toNatClampNeg).toInt64 <<< ((32 : Int32).toInt64 &&& 63)) ||| ((xs (iv + (7 : Int32)).toNatClampNeg).toInt64 &&& (4294967295 : Int64))) _ _ e2) (cwV 4 hts gL_law_X3_append rfl rfl rfl (by decide +kernel) ⟨by decide, by decide⟩) rfl rfl rfl rfl (by decide) 0 rfl rfl rfl rfl rfl (Nat.le_of_ble_eq_true rfl) dL_law_333 ⟨by decide, by decide⟩ (fun H locs hG => ?_)
  have hG : gG D (fun q : Nat => s.heap.size ≤ q) s.heap (wC h0 q1 q2 q3 cJ cs' ++ wR g0 qk qs qp qw qr qo qn cI cJ rs') H locs := hG
  refine lv_icmp_eq (tgt := 825) hx hb dL_law_336 (by decide) (fun _ => ?_) (fun cq => ?_)
  · exact K cs' rs' H locs hB' hI' hw' hG
  · exact absurd rfl cq
set_option maxHeartbeats 4000000 in
set_option maxRecDepth 100000 in
theorem lc_put {p : Program} {l : Launch} {e : Env} {s : State} {m : MethodId} {below : List Frame} {meth : Method} {c : Code} {b L : Nat} {xs : Nat → Int32} {D : va_G} {cI cJ : ClassId} {h0 q1 q2 q3 g0 qk qs qp qw qr qo qn : Nat} {iv : Int32} {k : Nat} {cs : CS} {rs : RS} {H : Heap} {locs : List Loc} {ls : Array Slot} (hL : L ≤ 4096) (C0 : lw_At p s m meth c b L xs) (hK : va_K D vwCl (gT cI cJ) s) (hiv : iv = nI (8 * k)) (hk : 8 * k + 8 ≤ L) (hB : RB cs rs) (hI : IV rs) (hG : gG D (fun q : Nat => s.heap.size ≤ q) s.heap (wC h0 q1 q2 q3 cJ cs ++ wR g0 qk qs qp qw qr qo qn cI cJ rs) H locs) (hl : lv_has ls 4 [(0, .ref b), (1, .ref h0), (2, .ref g0), (3, .int iv)]) (K : ∀ (cs' : CS) (rs' : RS) (H : Heap) (locs : List Loc), RB cs' rs' → IV rs' → (∃ m, m ≤ 200 ∧ R_wr rs' = R_wr rs + nI m) → gG D (fun q : Nat => s.heap.size ≤ q) s.heap (wC h0 q1 q2 q3 cJ cs' ++ wR g0 qk qs qp qw qr qo qn cI cJ rs') H locs → W p l e room_1 s m #[Value.ref b] below meth c H locs 12 540 (lw_Z below #[Value.ref b] s) (F0 m 825 ls [])) : W p l e room_1 s m #[Value.ref b] below meth c H locs 12 540 (lw_Z below #[Value.ref b] s) (F0 m 341 ls []) := by
  obtain ⟨hx, hb, hr, hml, hown, hts0, hX, hbl, hlocks, hgv⟩ := C0
  have hts : ∀ w ∈ wsL_law, w.before #[Value.ref b] s = true := fun w h => hts0 w (wsL_law_in w h)
  have hA : ∀ q : Nat, s.heap.size ≤ q → (fun q : Nat => s.heap.size ≤ q) q := fun _ h => h
  have hbA : ¬ (fun q : Nat => s.heap.size ≤ q) b := Nat.not_le.mpr hbl
  have B : CallFix p m c cL_law 4 s #[Value.ref b] wsL_law RL := ⟨hx, hb, hml, hown, hts⟩
  have vin1 : vp_in (iv + (1 : Int32)) L := by rw [hiv, show (1 : Int32) = nI 1 from rfl, nI_add]; exact vp_in_nI (by omega) (by omega)
  have vin2 : vp_in (iv + (2 : Int32)) L := by rw [hiv, show (2 : Int32) = nI 2 from rfl, nI_add]; exact vp_in_nI (by omega) (by omega)
  have vin3 : vp_in (iv + (3 : Int32)) L := by rw [hiv, show (3 : Int32) = nI 3 from rfl, nI_add]; exact vp_in_nI (by omega) (by omega)
  have vin4 : vp_in (iv + (4 : Int32)) L := by rw [hiv, show (4 : Int32) = nI 4 from rfl, nI_add]; exact vp_in_nI (by omega) (by omega)
  have vin5 : vp_in (iv + (5 : Int32)) L := by rw [hiv, show (5 : Int32) = nI 5 from rfl, nI_add]; exact vp_in_nI (by omega) (by omega)
  obtain ⟨v, cs', rs', e1, e2, hB', hI', hw'⟩ := mm_put hB hI (xs (iv + (1 : Int32)).toNatClampNeg) (xs (iv + (2 : Int32)).toNatClampNeg) (xs (iv + (3 : Int32)).toNatClampNeg) (((xs (iv + (4 : Int32)).toNatClampNeg).toInt64 <<< ((32 : Int32).toInt64 &&& 63)) ||| ((xs (iv + (5 : Int32)).toNatClampNeg).toInt64 &&& (4294967295 : Int64)))
  have e1 := Option.some.inj e1
  refine lv_aload_n hx hb dL_law_341 rfl (lv_at hl 1 rfl) ?_
  refine lv_aload_n hx hb dL_law_342 rfl (lv_at hl 0 rfl) ?_
  refine lv_iload_n hx hb dL_law_343 rfl (lv_at hl 3 rfl) ?_
  refine lv_iconst (v := 1) hx hb dL_law_344 (by decide) ?_
  refine lv_iadd hx hb dL_law_345 ?_
  refine va_sld hx hb hX hbl hbA hG.2.2 vin1 dL_law_346 ?_
  refine lv_aload_n hx hb dL_law_347 rfl (lv_at hl 0 rfl) ?_
  refine lv_iload_n hx hb dL_law_348 rfl (lv_at hl 3 rfl) ?_
  refine lv_iconst (v := 2) hx hb dL_law_349 (by decide) ?_
  refine lv_iadd hx hb dL_law_350 ?_
  refine va_sld hx hb hX hbl hbA hG.2.2 vin2 dL_law_351 ?_
  refine lv_aload_n hx hb dL_law_352 rfl (lv_at hl 0 rfl) ?_
  refine lv_iload_n hx hb dL_law_353 rfl (lv_at hl 3 rfl) ?_
  refine lv_iconst (v := 3) hx hb dL_law_354 (by decide) ?_
  refine lv_iadd hx hb dL_law_355 ?_
  refine va_sld hx hb hX hbl hbA hG.2.2 vin3 dL_law_356 ?_
  refine lv_aload_n hx hb dL_law_357 rfl (lv_at hl 0 rfl) ?_
  refine lv_iload_n hx hb dL_law_358 rfl (lv_at hl 3 rfl) ?_
  refine lv_iconst (v := 4) hx hb dL_law_359 (by decide) ?_
  refine lv_iadd hx hb dL_law_360 ?_
  refine va_sld hx hb hX hbl hbA hG.2.2 vin4 dL_law_361 ?_
  refine lv_i2l hx hb dL_law_362 rfl ?_
  refine lv_bipush (v := 32) hx hb dL_law_363 (by decide) ?_
  refine lv_lshl hx hb dL_law_365 rfl ?_
  refine lv_aload_n hx hb dL_law_366 rfl (lv_at hl 0 rfl) ?_
  refine lv_iload_n hx hb dL_law_367 rfl (lv_at hl 3 rfl) ?_
  refine lv_iconst (v := 5) hx hb dL_law_368 (by decide) ?_
  refine lv_iadd hx hb dL_law_369 ?_
  refine va_sld hx hb hX hbl hbA hG.2.2 vin5 dL_law_370 ?_
  refine lv_i2l hx hb dL_law_371 rfl ?_
  refine lv_ldc2 (v := 4294967295) hx hb B.2.2.2.1 (hts (.constantLong RL 23 (4294967295)) (by decide +kernel)) dL_law_372 ?_
  refine lv_land hx hb dL_law_375 ?_
  refine lv_lor hx hb dL_law_376 ?_
  refine gl_Vi (wc := wC h0 q1 q2 q3 cJ cs) (wr := wR g0 qk qs qp qw qr qo qn cI cJ rs) [0, 1, 2, 3] [4, 5, 6, 7, 8, 9, 10, 11] hA hK hl.1 hG B (c_X2_put l D cI cJ h0 q1 q2 q3 _ cs (xs (iv + (1 : Int32)).toNatClampNeg) (xs (iv + (2 : Int32)).toNatClampNeg) (xs (iv + (3 : Int32)).toNatClampNeg) (((xs (iv + (4 : Int32)).toNatClampNeg).toInt64 <<< ((32 : Int32).toInt64 &&& 63)) ||| ((xs (iv + (5 : Int32)).toNatClampNeg).toInt64 &&& (4294967295 : Int64))) _ _ e1) (cwV 4 hts gL_law_X2_put rfl rfl rfl (by decide +kernel) ⟨by decide, by decide⟩) rfl rfl rfl rfl (by decide) 0 rfl rfl rfl rfl rfl (Nat.le_of_ble_eq_true rfl) dL_law_377 ⟨by decide, by decide⟩ (fun H locs hG => ?_)
  have hG : gG D (fun q : Nat => s.heap.size ≤ q) s.heap (wR g0 qk qs qp qw qr qo qn cI cJ rs ++ wC h0 q1 q2 q3 cJ cs') H locs := hG
  refine lv_aload_n hx hb dL_law_380 rfl (lv_at hl 2 rfl) ?_
  refine lv_aload_n hx hb dL_law_381 rfl (lv_at hl 0 rfl) ?_
  refine lv_iload_n hx hb dL_law_382 rfl (lv_at hl 3 rfl) ?_
  refine lv_iconst (v := 1) hx hb dL_law_383 (by decide) ?_
  refine lv_iadd hx hb dL_law_384 ?_
  refine va_sld hx hb hX hbl hbA hG.2.2 vin1 dL_law_385 ?_
  refine lv_aload_n hx hb dL_law_386 rfl (lv_at hl 0 rfl) ?_
  refine lv_iload_n hx hb dL_law_387 rfl (lv_at hl 3 rfl) ?_
  refine lv_iconst (v := 2) hx hb dL_law_388 (by decide) ?_
  refine lv_iadd hx hb dL_law_389 ?_
  refine va_sld hx hb hX hbl hbA hG.2.2 vin2 dL_law_390 ?_
  refine lv_aload_n hx hb dL_law_391 rfl (lv_at hl 0 rfl) ?_
  refine lv_iload_n hx hb dL_law_392 rfl (lv_at hl 3 rfl) ?_
  refine lv_iconst (v := 3) hx hb dL_law_393 (by decide) ?_
  refine lv_iadd hx hb dL_law_394 ?_
  refine va_sld hx hb hX hbl hbA hG.2.2 vin3 dL_law_395 ?_
  refine lv_aload_n hx hb dL_law_396 rfl (lv_at hl 0 rfl) ?_
  refine lv_iload_n hx hb dL_law_397 rfl (lv_at hl 3 rfl) ?_
  refine lv_iconst (v := 4) hx hb dL_law_398 (by decide) ?_
  refine lv_iadd hx hb dL_law_399 ?_
  refine va_sld hx hb hX hbl hbA hG.2.2 vin4 dL_law_400 ?_
  refine lv_i2l hx hb dL_law_401 rfl ?_
  refine lv_bipush (v := 32) hx hb dL_law_402 (by decide) ?_
  refine lv_lshl hx hb dL_law_404 rfl ?_
  refine lv_aload_n hx hb dL_law_405 rfl (lv_at hl 0 rfl) ?_
  refine lv_iload_n hx hb dL_law_406 rfl (lv_at hl 3 rfl) ?_
  refine lv_iconst (v := 5) hx hb dL_law_407 (by decide) ?_
  refine lv_iadd hx hb dL_law_408 ?_
  refine va_sld hx hb hX hbl hbA hG.2.2 vin5 dL_law_409 ?_
  refine lv_i2l hx hb dL_law_410 rfl ?_
  refine lv_ldc2 (v := 4294967295) hx hb B.2.2.2.1 (hts (.constantLong RL 23 (4294967295)) (by decide +kernel)) dL_law_411 ?_
  refine lv_land hx hb dL_law_414 ?_
  refine lv_lor hx hb dL_law_415 ?_
  refine gl_Vi (wc := wR g0 qk qs qp qw qr qo qn cI cJ rs) (wr := wC h0 q1 q2 q3 cJ cs') [0, 1, 2, 3, 4, 5, 6, 7] [8, 9, 10, 11] hA hK hl.1 hG B (c_X3_put l D cI cJ g0 qk qs qp qw qr qo qn _ rs (xs (iv + (1 : Int32)).toNatClampNeg) (xs (iv + (2 : Int32)).toNatClampNeg) (xs (iv + (3 : Int32)).toNatClampNeg) (((xs (iv + (4 : Int32)).toNatClampNeg).toInt64 <<< ((32 : Int32).toInt64 &&& 63)) ||| ((xs (iv + (5 : Int32)).toNatClampNeg).toInt64 &&& (4294967295 : Int64))) _ _ e2) (cwV 4 hts gL_law_X3_put rfl rfl rfl (by decide +kernel) ⟨by decide, by decide⟩) rfl rfl rfl rfl (by decide) 0 rfl rfl rfl rfl rfl (Nat.le_of_ble_eq_true rfl) dL_law_416 ⟨by decide, by decide⟩ (fun H locs hG => ?_)
  have hG : gG D (fun q : Nat => s.heap.size ≤ q) s.heap (wC h0 q1 q2 q3 cJ cs' ++ wR g0 qk qs qp qw qr qo qn cI cJ rs') H locs := hG
  refine lv_icmp_eq (tgt := 825) hx hb dL_law_419 (by decide) (fun _ => ?_) (fun cq => ?_)
  · exact K cs' rs' H locs hB' hI' hw' hG
  · exact absurd rfl cq
set_option maxHeartbeats 4000000 in
set_option maxRecDepth 100000 in
theorem lc_remove {p : Program} {l : Launch} {e : Env} {s : State} {m : MethodId} {below : List Frame} {meth : Method} {c : Code} {b L : Nat} {xs : Nat → Int32} {D : va_G} {cI cJ : ClassId} {h0 q1 q2 q3 g0 qk qs qp qw qr qo qn : Nat} {iv : Int32} {k : Nat} {cs : CS} {rs : RS} {H : Heap} {locs : List Loc} {ls : Array Slot} (hL : L ≤ 4096) (C0 : lw_At p s m meth c b L xs) (hK : va_K D vwCl (gT cI cJ) s) (hiv : iv = nI (8 * k)) (hk : 8 * k + 8 ≤ L) (hB : RB cs rs) (hI : IV rs) (hG : gG D (fun q : Nat => s.heap.size ≤ q) s.heap (wC h0 q1 q2 q3 cJ cs ++ wR g0 qk qs qp qw qr qo qn cI cJ rs) H locs) (hl : lv_has ls 4 [(0, .ref b), (1, .ref h0), (2, .ref g0), (3, .int iv)]) (K : ∀ (cs' : CS) (rs' : RS) (H : Heap) (locs : List Loc), RB cs' rs' → IV rs' → (∃ m, m ≤ 200 ∧ R_wr rs' = R_wr rs + nI m) → gG D (fun q : Nat => s.heap.size ≤ q) s.heap (wC h0 q1 q2 q3 cJ cs' ++ wR g0 qk qs qp qw qr qo qn cI cJ rs') H locs → W p l e room_1 s m #[Value.ref b] below meth c H locs 12 540 (lw_Z below #[Value.ref b] s) (F0 m 825 ls [])) : W p l e room_1 s m #[Value.ref b] below meth c H locs 12 540 (lw_Z below #[Value.ref b] s) (F0 m 424 ls []) := by
  obtain ⟨hx, hb, hr, hml, hown, hts0, hX, hbl, hlocks, hgv⟩ := C0
  have hts : ∀ w ∈ wsL_law, w.before #[Value.ref b] s = true := fun w h => hts0 w (wsL_law_in w h)
  have hA : ∀ q : Nat, s.heap.size ≤ q → (fun q : Nat => s.heap.size ≤ q) q := fun _ h => h
  have hbA : ¬ (fun q : Nat => s.heap.size ≤ q) b := Nat.not_le.mpr hbl
  have B : CallFix p m c cL_law 4 s #[Value.ref b] wsL_law RL := ⟨hx, hb, hml, hown, hts⟩
  have vin1 : vp_in (iv + (1 : Int32)) L := by rw [hiv, show (1 : Int32) = nI 1 from rfl, nI_add]; exact vp_in_nI (by omega) (by omega)
  have vin2 : vp_in (iv + (2 : Int32)) L := by rw [hiv, show (2 : Int32) = nI 2 from rfl, nI_add]; exact vp_in_nI (by omega) (by omega)
  obtain ⟨v, cs', rs', e1, e2, hB', hI', hw'⟩ := mm_remove hB hI (xs (iv + (1 : Int32)).toNatClampNeg) (xs (iv + (2 : Int32)).toNatClampNeg)
  refine lv_aload_n hx hb dL_law_424 rfl (lv_at hl 1 rfl) ?_
  refine lv_aload_n hx hb dL_law_425 rfl (lv_at hl 0 rfl) ?_
  refine lv_iload_n hx hb dL_law_426 rfl (lv_at hl 3 rfl) ?_
  refine lv_iconst (v := 1) hx hb dL_law_427 (by decide) ?_
  refine lv_iadd hx hb dL_law_428 ?_
  refine va_sld hx hb hX hbl hbA hG.2.2 vin1 dL_law_429 ?_
  refine lv_aload_n hx hb dL_law_430 rfl (lv_at hl 0 rfl) ?_
  refine lv_iload_n hx hb dL_law_431 rfl (lv_at hl 3 rfl) ?_
  refine lv_iconst (v := 2) hx hb dL_law_432 (by decide) ?_
  refine lv_iadd hx hb dL_law_433 ?_
  refine va_sld hx hb hX hbl hbA hG.2.2 vin2 dL_law_434 ?_
  refine gl_Vi (wc := wC h0 q1 q2 q3 cJ cs) (wr := wR g0 qk qs qp qw qr qo qn cI cJ rs) [0, 1, 2, 3] [4, 5, 6, 7, 8, 9, 10, 11] hA hK hl.1 hG B (c_X2_remove l D cI cJ h0 q1 q2 q3 _ cs (xs (iv + (1 : Int32)).toNatClampNeg) (xs (iv + (2 : Int32)).toNatClampNeg) _ _ e1) (cwV 2 hts gL_law_X2_remove rfl rfl rfl (by decide +kernel) ⟨by decide, by decide⟩) rfl rfl rfl rfl (by decide) 0 rfl rfl rfl rfl rfl (Nat.le_of_ble_eq_true rfl) dL_law_435 ⟨by decide, by decide⟩ (fun H locs hG => ?_)
  have hG : gG D (fun q : Nat => s.heap.size ≤ q) s.heap (wR g0 qk qs qp qw qr qo qn cI cJ rs ++ wC h0 q1 q2 q3 cJ cs') H locs := hG
  refine lv_aload_n hx hb dL_law_438 rfl (lv_at hl 2 rfl) ?_
  refine lv_aload_n hx hb dL_law_439 rfl (lv_at hl 0 rfl) ?_
  refine lv_iload_n hx hb dL_law_440 rfl (lv_at hl 3 rfl) ?_
  refine lv_iconst (v := 1) hx hb dL_law_441 (by decide) ?_
  refine lv_iadd hx hb dL_law_442 ?_
  refine va_sld hx hb hX hbl hbA hG.2.2 vin1 dL_law_443 ?_
  refine lv_aload_n hx hb dL_law_444 rfl (lv_at hl 0 rfl) ?_
  refine lv_iload_n hx hb dL_law_445 rfl (lv_at hl 3 rfl) ?_
  refine lv_iconst (v := 2) hx hb dL_law_446 (by decide) ?_
  refine lv_iadd hx hb dL_law_447 ?_
  refine va_sld hx hb hX hbl hbA hG.2.2 vin2 dL_law_448 ?_
  refine gl_Vi (wc := wR g0 qk qs qp qw qr qo qn cI cJ rs) (wr := wC h0 q1 q2 q3 cJ cs') [0, 1, 2, 3, 4, 5, 6, 7] [8, 9, 10, 11] hA hK hl.1 hG B (c_X3_remove l D cI cJ g0 qk qs qp qw qr qo qn _ rs (xs (iv + (1 : Int32)).toNatClampNeg) (xs (iv + (2 : Int32)).toNatClampNeg) _ _ e2) (cwV 2 hts gL_law_X3_remove rfl rfl rfl (by decide +kernel) ⟨by decide, by decide⟩) rfl rfl rfl rfl (by decide) 0 rfl rfl rfl rfl rfl (Nat.le_of_ble_eq_true rfl) dL_law_449 ⟨by decide, by decide⟩ (fun H locs hG => ?_)
  have hG : gG D (fun q : Nat => s.heap.size ≤ q) s.heap (wC h0 q1 q2 q3 cJ cs' ++ wR g0 qk qs qp qw qr qo qn cI cJ rs') H locs := hG
  refine lv_icmp_eq (tgt := 825) hx hb dL_law_452 (by decide) (fun _ => ?_) (fun cq => ?_)
  · exact K cs' rs' H locs hB' hI' hw' hG
  · exact absurd rfl cq
