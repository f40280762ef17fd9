def b_X3_tree_220 (y3_220 : Int32) (y4_220 : Int32) (y8_220 : Int32) (g220 : RS) (y1_220 : Int64) (y9_220 : Int32) : Option ((Int64) ⊕ (Int64 × Int32)) := (chk y8_220 12 ((if ((3 : Int32) * (R_size g220 y8_220.toNatClampNeg)) ≤ y9_220 then some (.inl y1_220) else (chk (((8 : Int32) * y8_220) + (y9_220 / (3 : Int32))) 96 ((chk (((3 : Int32) * (R_pl g220 (((8 : Int32) * y8_220) + (y9_220 / (3 : Int32))).toNatClampNeg)) + (y9_220 - y9_220 / (3 : Int32) * (3 : Int32))) 120 (some (.inr ((((31 : Int64) * y1_220) + (R_ws g220 (((3 : Int32) * (R_pl g220 (((8 : Int32) * y8_220) + (y9_220 / (3 : Int32))).toNatClampNeg)) + (y9_220 - y9_220 / (3 : Int32) * (3 : Int32))).toNatClampNeg)), (y9_220 + (1 : Int32)))))))))))
def b_X3_tree_23  (y1_23 : Int64) (y3_23 : Int32) (y4_23 : Int32) (g23 : RS) : Option ((Int64 × RS) ⊕ (Int64 × Int32 × Int32 × RS)) := (if y4_23 ≤ (0 : Int32) then some (.inl (y1_23, g23)) else (chk (y4_23 - (1 : Int32)) 12 ((chk (y4_23 - (1 : Int32)) 12 (((f_X3_nextEntry (R_op g23 (y4_23 - (1 : Int32)).toNatClampNeg) (R_ln g23 (y4_23 - (1 : Int32)).toNatClampNeg) g23).bind (fun zv_6 => (if (0 : Int32) ≤ zv_6 then (chk (((8 : Int32) * (R_op g23 (y4_23 - (1 : Int32)).toNatClampNeg)) + zv_6) 96 ((chk (y4_23 - (1 : Int32)) 12 ((chk ((R_pl g23 (((8 : Int32) * (R_op g23 (y4_23 - (1 : Int32)).toNatClampNeg)) + zv_6).toNatClampNeg) / (100 : Int32)) 12 ((if (R_kind (sR_ln (upd (R_ln g23) (y4_23 - (1 : Int32)).toNatClampNeg ((R_pl g23 (((8 : Int32) * (R_op g23 (y4_23 - (1 : Int32)).toNatClampNeg)) + zv_6).toNatClampNeg) - (R_pl g23 (((8 : Int32) * (R_op g23 (y4_23 - (1 : Int32)).toNatClampNeg)) + zv_6).toNatClampNeg) / (100 : Int32) * (100 : Int32))) g23) ((R_pl g23 (((8 : Int32) * (R_op g23 (y4_23 - (1 : Int32)).toNatClampNeg)) + zv_6).toNatClampNeg) / (100 : Int32)).toNatClampNeg) = (0 : Int32) then some (.inr (y1_23, y3_23, y4_23, (sR_ln (upd (R_ln g23) (y4_23 - (1 : Int32)).toNatClampNeg ((R_pl g23 (((8 : Int32) * (R_op g23 (y4_23 - (1 : Int32)).toNatClampNeg)) + zv_6).toNatClampNeg) - (R_pl g23 (((8 : Int32) * (R_op g23 (y4_23 - (1 : Int32)).toNatClampNeg)) + zv_6).toNatClampNeg) / (100 : Int32) * (100 : Int32))) g23))) else (if ((y3_23 >>> (((R_pl g23 (((8 : Int32) * (R_op g23 (y4_23 - (1 : Int32)).toNatClampNeg)) + zv_6).toNatClampNeg) / (100 : Int32)) &&& 31)) &&& (1 : Int32)) = (0 : Int32) then (chk ((R_pl g23 (((8 : Int32) * (R_op g23 (y4_23 - (1 : Int32)).toNatClampNeg)) + zv_6).toNatClampNeg) / (100 : Int32)) 12 ((if (R_kind (sR_ln (upd (R_ln g23) (y4_23 - (1 : Int32)).toNatClampNeg ((R_pl g23 (((8 : Int32) * (R_op g23 (y4_23 - (1 : Int32)).toNatClampNeg)) + zv_6).toNatClampNeg) - (R_pl g23 (((8 : Int32) * (R_op g23 (y4_23 - (1 : Int32)).toNatClampNeg)) + zv_6).toNatClampNeg) / (100 : Int32) * (100 : Int32))) g23) ((R_pl g23 (((8 : Int32) * (R_op g23 (y4_23 - (1 : Int32)).toNatClampNeg)) + zv_6).toNatClampNeg) / (100 : Int32)).toNatClampNeg) = (1 : Int32) then (chk y4_23 12 ((chk y4_23 12 (some (.inr ((((31 : Int64) * (((31 : Int64) * y1_23) + ((R_pl g23 (((8 : Int32) * (R_op g23 (y4_23 - (1 : Int32)).toNatClampNeg)) + zv_6).toNatClampNeg) - (R_pl g23 (((8 : Int32) * (R_op g23 (y4_23 - (1 : Int32)).toNatClampNeg)) + zv_6).toNatClampNeg) / (100 : Int32) * (100 : Int32)).toInt64)) + (1 : Int64)), (y3_23 ||| ((1 : Int32) <<< (((R_pl g23 (((8 : Int32) * (R_op g23 (y4_23 - (1 : Int32)).toNatClampNeg)) + zv_6).toNatClampNeg) / (100 : Int32)) &&& 31))), (y4_23 + (1 : Int32)), (sR_ln (upd (R_ln (sR_op (upd (R_op (sR_ln (upd (R_ln g23) (y4_23 - (1 : Int32)).toNatClampNeg ((R_pl g23 (((8 : Int32) * (R_op g23 (y4_23 - (1 : Int32)).toNatClampNeg)) + zv_6).toNatClampNeg) - (R_pl g23 (((8 : Int32) * (R_op g23 (y4_23 - (1 : Int32)).toNatClampNeg)) + zv_6).toNatClampNeg) / (100 : Int32) * (100 : Int32))) g23)) y4_23.toNatClampNeg ((R_pl g23 (((8 : Int32) * (R_op g23 (y4_23 - (1 : Int32)).toNatClampNeg)) + zv_6).toNatClampNeg) / (100 : Int32))) (sR_ln (upd (R_ln g23) (y4_23 - (1 : Int32)).toNatClampNeg ((R_pl g23 (((8 : Int32) * (R_op g23 (y4_23 - (1 : Int32)).toNatClampNeg)) + zv_6).toNatClampNeg) - (R_pl g23 (((8 : Int32) * (R_op g23 (y4_23 - (1 : Int32)).toNatClampNeg)) + zv_6).toNatClampNeg) / (100 : Int32) * (100 : Int32))) g23))) y4_23.toNatClampNeg (0 : Int32)) (sR_op (upd (R_op (sR_ln (upd (R_ln g23) (y4_23 - (1 : Int32)).toNatClampNeg ((R_pl g23 (((8 : Int32) * (R_op g23 (y4_23 - (1 : Int32)).toNatClampNeg)) + zv_6).toNatClampNeg) - (R_pl g23 (((8 : Int32) * (R_op g23 (y4_23 - (1 : Int32)).toNatClampNeg)) + zv_6).toNatClampNeg) / (100 : Int32) * (100 : Int32))) g23)) y4_23.toNatClampNeg ((R_pl g23 (((8 : Int32) * (R_op g23 (y4_23 - (1 : Int32)).toNatClampNeg)) + zv_6).toNatClampNeg) / (100 : Int32))) (sR_ln (upd (R_ln g23) (y4_23 - (1 : Int32)).toNatClampNeg ((R_pl g23 (((8 : Int32) * (R_op g23 (y4_23 - (1 : Int32)).toNatClampNeg)) + zv_6).toNatClampNeg) - (R_pl g23 (((8 : Int32) * (R_op g23 (y4_23 - (1 : Int32)).toNatClampNeg)) + zv_6).toNatClampNeg) / (100 : Int32) * (100 : Int32))) g23))))))))) else (chk ((R_pl g23 (((8 : Int32) * (R_op g23 (y4_23 - (1 : Int32)).toNatClampNeg)) + zv_6).toNatClampNeg) / (100 : Int32)) 12 (((itl (fun a : Int64 × Int32 => b_X3_tree_220 (y3_23 ||| ((1 : Int32) <<< (((R_pl g23 (((8 : Int32) * (R_op g23 (y4_23 - (1 : Int32)).toNatClampNeg)) + zv_6).toNatClampNeg) / (100 : Int32)) &&& 31))) y4_23 ((R_pl g23 (((8 : Int32) * (R_op g23 (y4_23 - (1 : Int32)).toNatClampNeg)) + zv_6).toNatClampNeg) / (100 : Int32)) (sR_ln (upd (R_ln g23) (y4_23 - (1 : Int32)).toNatClampNeg ((R_pl g23 (((8 : Int32) * (R_op g23 (y4_23 - (1 : Int32)).toNatClampNeg)) + zv_6).toNatClampNeg) - (R_pl g23 (((8 : Int32) * (R_op g23 (y4_23 - (1 : Int32)).toNatClampNeg)) + zv_6).toNatClampNeg) / (100 : Int32) * (100 : Int32))) g23) a.1 a.2) 300 ((((31 : Int64) * (((31 : Int64) * (((31 : Int64) * y1_23) + ((R_pl g23 (((8 : Int32) * (R_op g23 (y4_23 - (1 : Int32)).toNatClampNeg)) + zv_6).toNatClampNeg) - (R_pl g23 (((8 : Int32) * (R_op g23 (y4_23 - (1 : Int32)).toNatClampNeg)) + zv_6).toNatClampNeg) / (100 : Int32) * (100 : Int32)).toInt64)) + (2 : Int64))) + (R_size (sR_ln (upd (R_ln g23) (y4_23 - (1 : Int32)).toNatClampNeg ((R_pl g23 (((8 : Int32) * (R_op g23 (y4_23 - (1 : Int32)).toNatClampNeg)) + zv_6).toNatClampNeg) - (R_pl g23 (((8 : Int32) * (R_op g23 (y4_23 - (1 : Int32)).toNatClampNeg)) + zv_6).toNatClampNeg) / (100 : Int32) * (100 : Int32))) g23) ((R_pl g23 (((8 : Int32) * (R_op g23 (y4_23 - (1 : Int32)).toNatClampNeg)) + zv_6).toNatClampNeg) / (100 : Int32)).toNatClampNeg).toInt64), (0 : Int32))).bind (fun ev_20 => some (.inr (ev_20, (y3_23 ||| ((1 : Int32) <<< (((R_pl g23 (((8 : Int32) * (R_op g23 (y4_23 - (1 : Int32)).toNatClampNeg)) + zv_6).toNatClampNeg) / (100 : Int32)) &&& 31))), y4_23, (sR_ln (upd (R_ln g23) (y4_23 - (1 : Int32)).toNatClampNeg ((R_pl g23 (((8 : Int32) * (R_op g23 (y4_23 - (1 : Int32)).toNatClampNeg)) + zv_6).toNatClampNeg) - (R_pl g23 (((8 : Int32) * (R_op g23 (y4_23 - (1 : Int32)).toNatClampNeg)) + zv_6).toNatClampNeg) / (100 : Int32) * (100 : Int32))) g23)))))))))) else some (.inr (y1_23, y3_23, y4_23, (sR_ln (upd (R_ln g23) (y4_23 - (1 : Int32)).toNatClampNeg ((R_pl g23 (((8 : Int32) * (R_op g23 (y4_23 - (1 : Int32)).toNatClampNeg)) + zv_6).toNatClampNeg) - (R_pl g23 (((8 : Int32) * (R_op g23 (y4_23 - (1 : Int32)).toNatClampNeg)) + zv_6).toNatClampNeg) / (100 : Int32) * (100 : Int32))) g23))))))))))) else some (.inr ((((31 : Int64) * y1_23) + (9 : Int64)), y3_23, (y4_23 + (-1 : Int32)), g23))))))))))
def f_X3_tree  (g : RS) : Option (Int64 × RS) := (chk (0 : Int32) 12 ((chk (0 : Int32) 12 (((itl (fun a : Int64 × Int32 × Int32 × RS => b_X3_tree_23  a.1 a.2.1 a.2.2.1 a.2.2.2) 300 ((156 : Int64), (1 : Int32), (1 : Int32), (sR_ln (upd (R_ln (sR_op (upd (R_op g) (0 : Int32).toNatClampNeg (0 : Int32)) g)) (0 : Int32).toNatClampNeg (0 : Int32)) (sR_op (upd (R_op g) (0 : Int32).toNatClampNeg (0 : Int32)) g)))).bind (fun ev_23 => some (ev_23.1, ev_23.2)))))))
set_option maxHeartbeats 4000000 in
set_option maxRecDepth 100000 in
theorem c_X3_tree (l : Launch) (D : va_G) (cI cJ : ClassId) (h0 qk qs qp qw qr qo qn sz : Nat) (g : RS)  (r : Int64) (g1 : RS) (hf : f_X3_tree  g = some (r, g1)) : Met l yX3_tree wsX3_tree { frames := 1, cells := 0, slots := 0, locals := 26 } (gPc D (gT cI cJ) sz (wR h0 qk qs qp qw qr qo qn cI cJ g) [.ref h0]) (gQl D (gT cI cJ) (va_A (wR h0 qk qs qp qw qr qo qn cI cJ g) sz) r (wR h0 qk qs qp qw qr qo qn cI cJ g1)) 0 0 (va_A (wR h0 qk qs qp qw qr qo qn cI cJ g) sz) := by
  refine gMet (cc := cX3_tree) (maxL := 10) (ret := (some .long)) (by decide) rfl ?_ (Nat.le_of_ble_eq_true rfl)
  intro p e0 s m below meth c ls B hr hlk hsz hK hG hl
  have hA : ∀ q : Nat, s.heap.size ≤ q → va_A (wR h0 qk qs qp qw qr qo qn cI cJ g) sz q := fun q h => Or.inr (hsz ▸ h)
  have hx := B.1
  have hb := B.2.1
  have hts := B.2.2.2.2
  have hl : lv_has ls 10 [(0, .ref h0)] := hl
  generalize va_A (wR h0 qk qs qp qw qr qo qn cI cJ g) sz = A at hA hG ⊢
  have hinX3 : ∀ x ∈ wsX30, x ∈ wsX3_tree := by decide +kernel
  have m_7 : Cond.fieldLink RX3 7 "BlockMoverModel" "kind" "[I" ∈ wsX3_tree := by decide +kernel
  have m_13 : Cond.fieldLink RX3 13 "BlockMoverModel" "size" "[I" ∈ wsX3_tree := by decide +kernel
  have m_16 : Cond.fieldLink RX3 16 "BlockMoverModel" "places" "[I" ∈ wsX3_tree := by decide +kernel
  have m_19 : Cond.fieldLink RX3 19 "BlockMoverModel" "words" "[J" ∈ wsX3_tree := by decide +kernel
  have m_30 : Cond.fieldLink RX3 30 "BlockMoverModel" "open" "[I" ∈ wsX3_tree := by decide +kernel
  have m_33 : Cond.fieldLink RX3 33 "BlockMoverModel" "latestName" "[I" ∈ wsX3_tree := by decide +kernel
  have L220 : ∀ (res : (Int64)) (y3_220 : Int32) (y4_220 : Int32) (y8_220 : Int32) (g220 : RS), (∀ (H1 : Heap) (locs1 : List Loc) (ls1 : Array Slot) (e : Int64), res = e → gG D A s.heap (wR h0 qk qs qp qw qr qo qn cI cJ g220) H1 locs1 → lv_has ls1 10 [(0, .ref h0), (1, .long e), (3, .int y3_220), (4, .int y4_220)] → W p l e0 { frames := 1, cells := 0, slots := 0, locals := 26 } s m ([.ref h0] : List Value).toArray below meth c H1 locs1 0 0 (MQ below (gQl D (gT cI cJ) A r (wR h0 qk qs qp qw qr qo qn cI cJ g1)) ([.ref h0] : List Value).toArray s 0 0 A) (F0 m 274 ls1 [])) → ∀ (n : Nat) (y1_220 : Int64) (y9_220 : Int32) (H : Heap) (locs : List Loc) (ls : Array Slot), gG D A s.heap (wR h0 qk qs qp qw qr qo qn cI cJ g220) H locs → lv_has ls 10 [(0, .ref h0), (1, .long y1_220), (3, .int y3_220), (4, .int y4_220), (8, .int y8_220), (9, .int y9_220)] → itl (fun a : Int64 × Int32 => b_X3_tree_220 y3_220 y4_220 y8_220 g220 a.1 a.2) n (y1_220, y9_220) = some res → W p l e0 { frames := 1, cells := 0, slots := 0, locals := 26 } s m ([.ref h0] : List Value).toArray below meth c H locs 0 0 (MQ below (gQl D (gT cI cJ) A r (wR h0 qk qs qp qw qr qo qn cI cJ g1)) ([.ref h0] : List Value).toArray s 0 0 A) (F0 m 220 ls []) := by
    intro res y3_220 y4_220 y8_220 g220 hKe220 n
    induction n with
    | zero => exact fun y1_220 y9_220 H locs ls hG hl hf => (itl_0 hf).elim
    | succ n ih =>
      intro y1_220 y9_220 H locs ls hG hl hf
      obtain ⟨o, hf, ho220, hn220⟩ := itl_s hf
      have hf : b_X3_tree_220 y3_220 y4_220 y8_220 g220 y1_220 y9_220 = some o := hf
      unfold b_X3_tree_220 at hf
      refine lv_iload hx hb dX3_tree_220 (lv_at hl 5 rfl) ?_
      refine lv_iconst (v := 3) hx hb dX3_tree_222 (by decide) ?_
      refine lv_aload_n hx hb dX3_tree_223 rfl (lv_at hl 0 rfl) ?_
      refine g_get hK hG B hinX3 0 rfl rfl 1 (by decide) m_13 rfl dX3_tree_224 ?_
      refine lv_iload hx hb dX3_tree_227 (lv_at hl 4 rfl) ?_
      obtain ⟨vq_16, hf⟩ := chk_s hf
      refine g_iald hK hG B 2 rfl vq_16 dX3_tree_229 ?_
      refine lv_imul hx hb dX3_tree_230 ?_
      refine lv_icmp_ge (tgt := 274) hx hb dX3_tree_231 (by decide) (fun cq_17 => ?_) (fun cq_17 => ?_)
      · have hf := ifT cq_17 hf
        have hres := ho220 _ (Option.some.inj hf).symm
        exact hKe220 _ _ _ y1_220 hres.symm hG (lv_sub hl [0, 1, 2, 3] rfl)
      · have hf := ifF cq_17 hf
        refine lv_ldc2 (v := 31) hx hb B.2.2.2.1 (hts (.constantLong RX3 156 (31)) (by decide +kernel)) dX3_tree_234 ?_
        refine lv_lload_n hx hb dX3_tree_237 rfl (lv_at hl 1 rfl) ?_
        refine lv_lmul hx hb dX3_tree_238 ?_
        refine lv_aload_n hx hb dX3_tree_239 rfl (lv_at hl 0 rfl) ?_
        refine g_get hK hG B hinX3 0 rfl rfl 3 (by decide) m_19 rfl dX3_tree_240 ?_
        refine lv_iconst (v := 3) hx hb dX3_tree_243 (by decide) ?_
        refine lv_aload_n hx hb dX3_tree_244 rfl (lv_at hl 0 rfl) ?_
        refine g_get hK hG B hinX3 0 rfl rfl 2 (by decide) m_16 rfl dX3_tree_245 ?_
        refine lv_bipush (v := 8) hx hb dX3_tree_248 (by decide) ?_
        refine lv_iload hx hb dX3_tree_250 (lv_at hl 4 rfl) ?_
        refine lv_imul hx hb dX3_tree_252 ?_
        refine lv_iload hx hb dX3_tree_253 (lv_at hl 5 rfl) ?_
        refine lv_iconst (v := 3) hx hb dX3_tree_255 (by decide) ?_
        refine lv_idiv hx hb dX3_tree_256 (by decide) ?_
        refine lv_iadd hx hb dX3_tree_257 ?_
        obtain ⟨vq_18, hf⟩ := chk_s hf
        refine g_iald hK hG B 3 rfl vq_18 dX3_tree_258 ?_
        refine lv_imul hx hb dX3_tree_259 ?_
        refine lv_iload hx hb dX3_tree_260 (lv_at hl 5 rfl) ?_
        refine lv_iconst (v := 3) hx hb dX3_tree_262 (by decide) ?_
        refine lv_irem hx hb dX3_tree_263 (by decide) ?_
        refine lv_iadd hx hb dX3_tree_264 ?_
        obtain ⟨vq_19, hf⟩ := chk_s hf
        refine g_lald hK hG B 4 rfl vq_19 dX3_tree_265 ?_
        refine lv_ladd hx hb dX3_tree_266 ?_
        refine lv_lstore_n (lv' := [(1, .long (((31 : Int64) * y1_220) + (R_ws g220 (((3 : Int32) * (R_pl g220 (((8 : Int32) * y8_220) + (y9_220 / (3 : Int32))).toNatClampNeg)) + (y9_220 - y9_220 / (3 : Int32) * (3 : Int32))).toNatClampNeg))), (0, .ref h0), (3, .int y3_220), (4, .int y4_220), (8, .int y8_220), (9, .int y9_220)]) hx hb dX3_tree_267 rfl hl (by decide) rfl (fun ls hl => ?_)
        refine lv_iinc (v := (y9_220 + (1 : Int32))) (lv' := [(9, .int (y9_220 + (1 : Int32))), (1, .long (((31 : Int64) * y1_220) + (R_ws g220 (((3 : Int32) * (R_pl g220 (((8 : Int32) * y8_220) + (y9_220 / (3 : Int32))).toNatClampNeg)) + (y9_220 - y9_220 / (3 : Int32) * (3 : Int32))).toNatClampNeg))), (0, .ref h0), (3, .int y3_220), (4, .int y4_220), (8, .int y8_220)]) hx hb dX3_tree_268 hl (k := 5) rfl rfl (by decide) rfl (fun ls hl => ?_)
        refine lv_goto (tgt := 220) hx hb dX3_tree_271 (by decide) ?_
        have hn := hn220 _ (Option.some.inj hf).symm
        exact ih (((31 : Int64) * y1_220) + (R_ws g220 (((3 : Int32) * (R_pl g220 (((8 : Int32) * y8_220) + (y9_220 / (3 : Int32))).toNatClampNeg)) + (y9_220 - y9_220 / (3 : Int32) * (3 : Int32))).toNatClampNeg)) (y9_220 + (1 : Int32)) _ _ _ hG (lv_sub hl [2, 1, 3, 4, 5, 0] rfl) hn
  have L23 : ∀ (res : (Int64 × RS)) , (∀ (H1 : Heap) (locs1 : List Loc) (ls1 : Array Slot) (e : Int64 × RS), res = e → gG D A s.heap (wR h0 qk qs qp qw qr qo qn cI cJ e.2) H1 locs1 → lv_has ls1 10 [(1, .long e.1)] → W p l e0 { frames := 1, cells := 0, slots := 0, locals := 26 } s m ([.ref h0] : List Value).toArray below meth c H1 locs1 0 0 (MQ below (gQl D (gT cI cJ) A r (wR h0 qk qs qp qw qr qo qn cI cJ g1)) ([.ref h0] : List Value).toArray s 0 0 A) (F0 m 277 ls1 [])) → ∀ (n : Nat) (y1_23 : Int64) (y3_23 : Int32) (y4_23 : Int32) (g23 : RS) (H : Heap) (locs : List Loc) (ls : Array Slot), gG D A s.heap (wR h0 qk qs qp qw qr qo qn cI cJ g23) H locs → lv_has ls 10 [(0, .ref h0), (1, .long y1_23), (3, .int y3_23), (4, .int y4_23)] → itl (fun a : Int64 × Int32 × Int32 × RS => b_X3_tree_23  a.1 a.2.1 a.2.2.1 a.2.2.2) n (y1_23, y3_23, y4_23, g23) = some res → W p l e0 { frames := 1, cells := 0, slots := 0, locals := 26 } s m ([.ref h0] : List Value).toArray below meth c H locs 0 0 (MQ below (gQl D (gT cI cJ) A r (wR h0 qk qs qp qw qr qo qn cI cJ g1)) ([.ref h0] : List Value).toArray s 0 0 A) (F0 m 23 ls []) := by
    intro res  hKe23 n
    induction n with
    | zero => exact fun y1_23 y3_23 y4_23 g23 H locs ls hG hl hf => (itl_0 hf).elim
    | succ n ih =>
      intro y1_23 y3_23 y4_23 g23 H locs ls hG hl hf
      obtain ⟨o, hf, ho23, hn23⟩ := itl_s hf
      have hf : b_X3_tree_23  y1_23 y3_23 y4_23 g23 = some o := hf
      unfold b_X3_tree_23 at hf
      refine lv_iload hx hb dX3_tree_23 (lv_at hl 3 rfl) ?_
      refine lv_if_le (tgt := 277) hx hb dX3_tree_25 (by decide) (fun cq_3 => ?_) (fun cq_3 => ?_)
      · have hf := ifT cq_3 hf
        have hres := ho23 _ (Option.some.inj hf).symm
        exact hKe23 _ _ _ (y1_23, g23) hres.symm hG (lv_sub hl [1] rfl)
      · have hf := ifF cq_3 hf
        refine lv_aload_n hx hb dX3_tree_28 rfl (lv_at hl 0 rfl) ?_
        refine g_get hK hG B hinX3 0 rfl rfl 14 (by decide) m_30 rfl dX3_tree_29 ?_
        refine lv_iload hx hb dX3_tree_32 (lv_at hl 3 rfl) ?_
        refine lv_iconst (v := 1) hx hb dX3_tree_34 (by decide) ?_
        refine lv_isub hx hb dX3_tree_35 ?_
        obtain ⟨vq_4, hf⟩ := chk_s hf
        refine g_iald hK hG B 6 rfl vq_4 dX3_tree_36 ?_
        refine lv_istore (lv' := [(5, .int (R_op g23 (y4_23 - (1 : Int32)).toNatClampNeg)), (0, .ref h0), (1, .long y1_23), (3, .int y3_23), (4, .int y4_23)]) hx hb dX3_tree_37 hl (by decide) rfl (fun ls hl => ?_)
        refine lv_aload_n hx hb dX3_tree_39 rfl (lv_at hl 1 rfl) ?_
        refine lv_iload hx hb dX3_tree_40 (lv_at hl 0 rfl) ?_
        refine lv_aload_n hx hb dX3_tree_42 rfl (lv_at hl 1 rfl) ?_
        refine g_get hK hG B hinX3 0 rfl rfl 15 (by decide) m_33 rfl dX3_tree_43 ?_
        refine lv_iload hx hb dX3_tree_46 (lv_at hl 4 rfl) ?_
        refine lv_iconst (v := 1) hx hb dX3_tree_48 (by decide) ?_
        refine lv_isub hx hb dX3_tree_49 ?_
        obtain ⟨vq_5, hf⟩ := chk_s hf
        refine g_iald hK hG B 7 rfl vq_5 dX3_tree_50 ?_
        obtain ⟨zv_6, hqzv_6, hf⟩ := ob hf
        refine gc_Vi hA hK hl.1 hG B (c_X3_nextEntry l D cI cJ h0 qk qs qp qw qr qo qn _ g23 (R_op g23 (y4_23 - (1 : Int32)).toNatClampNeg) (R_ln g23 (y4_23 - (1 : Int32)).toNatClampNeg) _ hqzv_6) (cwV 2 hts gX3_tree_X3_nextEntry rfl rfl rfl (by decide +kernel) ⟨by decide, by decide⟩) 0 rfl rfl rfl rfl rfl (Nat.le_of_ble_eq_true rfl) dX3_tree_51 ⟨Nat.zero_le _, Nat.zero_le _⟩ (fun H locs hG => ?_)
        refine lv_istore (lv' := [(6, .int zv_6), (5, .int (R_op g23 (y4_23 - (1 : Int32)).toNatClampNeg)), (0, .ref h0), (1, .long y1_23), (3, .int y3_23), (4, .int y4_23)]) hx hb dX3_tree_54 hl (by decide) rfl (fun ls hl => ?_)
        refine lv_iload hx hb dX3_tree_56 (lv_at hl 0 rfl) ?_
        refine lv_if_ge (tgt := 77) hx hb dX3_tree_58 (by decide) (fun cq_7 => ?_) (fun cq_7 => ?_)
        · have hf := ifT cq_7 hf
          refine lv_aload_n hx hb dX3_tree_77 rfl (lv_at hl 2 rfl) ?_
          refine g_get hK hG B hinX3 0 rfl rfl 2 (by decide) m_16 rfl dX3_tree_78 ?_
          refine lv_bipush (v := 8) hx hb dX3_tree_81 (by decide) ?_
          refine lv_iload hx hb dX3_tree_83 (lv_at hl 1 rfl) ?_
          refine lv_imul hx hb dX3_tree_85 ?_
          refine lv_iload hx hb dX3_tree_86 (lv_at hl 0 rfl) ?_
          refine lv_iadd hx hb dX3_tree_88 ?_
          obtain ⟨vq_8, hf⟩ := chk_s hf
          refine g_iald hK hG B 3 rfl vq_8 dX3_tree_89 ?_
          refine lv_istore (lv' := [(7, .int (R_pl g23 (((8 : Int32) * (R_op g23 (y4_23 - (1 : Int32)).toNatClampNeg)) + zv_6).toNatClampNeg)), (6, .int zv_6), (5, .int (R_op g23 (y4_23 - (1 : Int32)).toNatClampNeg)), (0, .ref h0), (1, .long y1_23), (3, .int y3_23), (4, .int y4_23)]) hx hb dX3_tree_90 hl (by decide) rfl (fun ls hl => ?_)
          refine lv_iload hx hb dX3_tree_92 (lv_at hl 0 rfl) ?_
          refine lv_bipush (v := 100) hx hb dX3_tree_94 (by decide) ?_
          refine lv_idiv hx hb dX3_tree_96 (by decide) ?_
          refine lv_istore (lv' := [(8, .int ((R_pl g23 (((8 : Int32) * (R_op g23 (y4_23 - (1 : Int32)).toNatClampNeg)) + zv_6).toNatClampNeg) / (100 : Int32))), (7, .int (R_pl g23 (((8 : Int32) * (R_op g23 (y4_23 - (1 : Int32)).toNatClampNeg)) + zv_6).toNatClampNeg)), (6, .int zv_6), (5, .int (R_op g23 (y4_23 - (1 : Int32)).toNatClampNeg)), (0, .ref h0), (1, .long y1_23), (3, .int y3_23), (4, .int y4_23)]) hx hb dX3_tree_97 hl (by decide) rfl (fun ls hl => ?_)
          refine lv_aload_n hx hb dX3_tree_99 rfl (lv_at hl 4 rfl) ?_
          refine g_get hK hG B hinX3 0 rfl rfl 15 (by decide) m_33 rfl dX3_tree_100 ?_
          refine lv_iload hx hb dX3_tree_103 (lv_at hl 7 rfl) ?_
          refine lv_iconst (v := 1) hx hb dX3_tree_105 (by decide) ?_
          refine lv_isub hx hb dX3_tree_106 ?_
          refine lv_iload hx hb dX3_tree_107 (lv_at hl 1 rfl) ?_
          refine lv_bipush (v := 100) hx hb dX3_tree_109 (by decide) ?_
          refine lv_irem hx hb dX3_tree_111 (by decide) ?_
          obtain ⟨vq_9, hf⟩ := chk_s hf
          refine ga_R_ln hK hG B vq_9 dX3_tree_112 (fun H locs hG => ?_)
          refine lv_aload_n hx hb dX3_tree_113 rfl (lv_at hl 4 rfl) ?_
          refine g_get hK hG B hinX3 0 rfl rfl 0 (by decide) m_7 rfl dX3_tree_114 ?_
          refine lv_iload hx hb dX3_tree_117 (lv_at hl 0 rfl) ?_
          obtain ⟨vq_10, hf⟩ := chk_s hf
          refine g_iald hK hG B 1 rfl vq_10 dX3_tree_119 ?_
          refine lv_if_eq (tgt := 274) hx hb dX3_tree_120 (by decide) (fun cq_11 => ?_) (fun cq_11 => ?_)
          · have hf := ifT cq_11 hf
            refine lv_goto (tgt := 23) hx hb dX3_tree_274 (by decide) ?_
            have hn := hn23 _ (Option.some.inj hf).symm
            exact ih y1_23 y3_23 y4_23 (sR_ln (upd (R_ln g23) (y4_23 - (1 : Int32)).toNatClampNeg ((R_pl g23 (((8 : Int32) * (R_op g23 (y4_23 - (1 : Int32)).toNatClampNeg)) + zv_6).toNatClampNeg) - (R_pl g23 (((8 : Int32) * (R_op g23 (y4_23 - (1 : Int32)).toNatClampNeg)) + zv_6).toNatClampNeg) / (100 : Int32) * (100 : Int32))) g23) _ _ _ hG (lv_sub hl [4, 5, 6, 7] rfl) hn
          · have hf := ifF cq_11 hf
            refine lv_iload_n hx hb dX3_tree_123 rfl (lv_at hl 6 rfl) ?_
            refine lv_iload hx hb dX3_tree_124 (lv_at hl 0 rfl) ?_
            refine lv_ishr hx hb dX3_tree_126 ?_
            refine lv_iconst (v := 1) hx hb dX3_tree_127 (by decide) ?_
            refine lv_iand hx hb dX3_tree_128 ?_
            refine lv_if_ne (tgt := 274) hx hb dX3_tree_129 (by decide) (fun cq_12 => ?_) (fun cq_12 => ?_)
            · have hf := ifF cq_12 hf
              refine lv_goto (tgt := 23) hx hb dX3_tree_274 (by decide) ?_
              have hn := hn23 _ (Option.some.inj hf).symm
              exact ih y1_23 y3_23 y4_23 (sR_ln (upd (R_ln g23) (y4_23 - (1 : Int32)).toNatClampNeg ((R_pl g23 (((8 : Int32) * (R_op g23 (y4_23 - (1 : Int32)).toNatClampNeg)) + zv_6).toNatClampNeg) - (R_pl g23 (((8 : Int32) * (R_op g23 (y4_23 - (1 : Int32)).toNatClampNeg)) + zv_6).toNatClampNeg) / (100 : Int32) * (100 : Int32))) g23) _ _ _ hG (lv_sub hl [4, 5, 6, 7] rfl) hn
            · have hf := ifT cq_12 hf
              refine lv_iload_n hx hb dX3_tree_132 rfl (lv_at hl 6 rfl) ?_
              refine lv_iconst (v := 1) hx hb dX3_tree_133 (by decide) ?_
              refine lv_iload hx hb dX3_tree_134 (lv_at hl 0 rfl) ?_
              refine lv_ishl hx hb dX3_tree_136 ?_
              refine lv_ior hx hb dX3_tree_137 ?_
              refine lv_istore_n (lv' := [(3, .int (y3_23 ||| ((1 : Int32) <<< (((R_pl g23 (((8 : Int32) * (R_op g23 (y4_23 - (1 : Int32)).toNatClampNeg)) + zv_6).toNatClampNeg) / (100 : Int32)) &&& 31)))), (8, .int ((R_pl g23 (((8 : Int32) * (R_op g23 (y4_23 - (1 : Int32)).toNatClampNeg)) + zv_6).toNatClampNeg) / (100 : Int32))), (7, .int (R_pl g23 (((8 : Int32) * (R_op g23 (y4_23 - (1 : Int32)).toNatClampNeg)) + zv_6).toNatClampNeg)), (6, .int zv_6), (5, .int (R_op g23 (y4_23 - (1 : Int32)).toNatClampNeg)), (0, .ref h0), (1, .long y1_23), (4, .int y4_23)]) hx hb dX3_tree_138 rfl hl (by decide) rfl (fun ls hl => ?_)
              refine lv_ldc2 (v := 31) hx hb B.2.2.2.1 (hts (.constantLong RX3 156 (31)) (by decide +kernel)) dX3_tree_139 ?_
              refine lv_lload_n hx hb dX3_tree_142 rfl (lv_at hl 6 rfl) ?_
              refine lv_lmul hx hb dX3_tree_143 ?_
              refine lv_iload hx hb dX3_tree_144 (lv_at hl 2 rfl) ?_
              refine lv_bipush (v := 100) hx hb dX3_tree_146 (by decide) ?_
              refine lv_irem hx hb dX3_tree_148 (by decide) ?_
              refine lv_i2l hx hb dX3_tree_149 rfl ?_
              refine lv_ladd hx hb dX3_tree_150 ?_
              refine lv_lstore_n (lv' := [(1, .long (((31 : Int64) * y1_23) + ((R_pl g23 (((8 : Int32) * (R_op g23 (y4_23 - (1 : Int32)).toNatClampNeg)) + zv_6).toNatClampNeg) - (R_pl g23 (((8 : Int32) * (R_op g23 (y4_23 - (1 : Int32)).toNatClampNeg)) + zv_6).toNatClampNeg) / (100 : Int32) * (100 : Int32)).toInt64)), (3, .int (y3_23 ||| ((1 : Int32) <<< (((R_pl g23 (((8 : Int32) * (R_op g23 (y4_23 - (1 : Int32)).toNatClampNeg)) + zv_6).toNatClampNeg) / (100 : Int32)) &&& 31)))), (8, .int ((R_pl g23 (((8 : Int32) * (R_op g23 (y4_23 - (1 : Int32)).toNatClampNeg)) + zv_6).toNatClampNeg) / (100 : Int32))), (7, .int (R_pl g23 (((8 : Int32) * (R_op g23 (y4_23 - (1 : Int32)).toNatClampNeg)) + zv_6).toNatClampNeg)), (6, .int zv_6), (5, .int (R_op g23 (y4_23 - (1 : Int32)).toNatClampNeg)), (0, .ref h0), (4, .int y4_23)]) hx hb dX3_tree_151 rfl hl (by decide) rfl (fun ls hl => ?_)
              refine lv_aload_n hx hb dX3_tree_152 rfl (lv_at hl 6 rfl) ?_
              refine g_get hK hG B hinX3 0 rfl rfl 0 (by decide) m_7 rfl dX3_tree_153 ?_
              refine lv_iload hx hb dX3_tree_156 (lv_at hl 2 rfl) ?_
              obtain ⟨vq_13, hf⟩ := chk_s hf
              refine g_iald hK hG B 1 rfl vq_13 dX3_tree_158 ?_
              refine lv_iconst (v := 1) hx hb dX3_tree_159 (by decide) ?_
              refine lv_icmp_ne (tgt := 194) hx hb dX3_tree_160 (by decide) (fun cq_14 => ?_) (fun cq_14 => ?_)
              · have hf := ifF cq_14 hf
                refine lv_ldc2 (v := 31) hx hb B.2.2.2.1 (hts (.constantLong RX3 156 (31)) (by decide +kernel)) dX3_tree_194 ?_
                refine lv_ldc2 (v := 31) hx hb B.2.2.2.1 (hts (.constantLong RX3 156 (31)) (by decide +kernel)) dX3_tree_197 ?_
                refine lv_lload_n hx hb dX3_tree_200 rfl (lv_at hl 0 rfl) ?_
                refine lv_lmul hx hb dX3_tree_201 ?_
                refine lv_ldc2 (v := 2) hx hb B.2.2.2.1 (hts (.constantLong RX3 68 (2)) (by decide +kernel)) dX3_tree_202 ?_
                refine lv_ladd hx hb dX3_tree_205 ?_
                refine lv_lmul hx hb dX3_tree_206 ?_
                refine lv_aload_n hx hb dX3_tree_207 rfl (lv_at hl 6 rfl) ?_
                refine g_get hK hG B hinX3 0 rfl rfl 1 (by decide) m_13 rfl dX3_tree_208 ?_
                refine lv_iload hx hb dX3_tree_211 (lv_at hl 2 rfl) ?_
                obtain ⟨vq_15, hf⟩ := chk_s hf
                refine g_iald hK hG B 2 rfl vq_15 dX3_tree_213 ?_
                refine lv_i2l hx hb dX3_tree_214 rfl ?_
                refine lv_ladd hx hb dX3_tree_215 ?_
                refine lv_lstore_n (lv' := [(1, .long (((31 : Int64) * (((31 : Int64) * (((31 : Int64) * y1_23) + ((R_pl g23 (((8 : Int32) * (R_op g23 (y4_23 - (1 : Int32)).toNatClampNeg)) + zv_6).toNatClampNeg) - (R_pl g23 (((8 : Int32) * (R_op g23 (y4_23 - (1 : Int32)).toNatClampNeg)) + zv_6).toNatClampNeg) / (100 : Int32) * (100 : Int32)).toInt64)) + (2 : Int64))) + (R_size (sR_ln (upd (R_ln g23) (y4_23 - (1 : Int32)).toNatClampNeg ((R_pl g23 (((8 : Int32) * (R_op g23 (y4_23 - (1 : Int32)).toNatClampNeg)) + zv_6).toNatClampNeg) - (R_pl g23 (((8 : Int32) * (R_op g23 (y4_23 - (1 : Int32)).toNatClampNeg)) + zv_6).toNatClampNeg) / (100 : Int32) * (100 : Int32))) g23) ((R_pl g23 (((8 : Int32) * (R_op g23 (y4_23 - (1 : Int32)).toNatClampNeg)) + zv_6).toNatClampNeg) / (100 : Int32)).toNatClampNeg).toInt64)), (3, .int (y3_23 ||| ((1 : Int32) <<< (((R_pl g23 (((8 : Int32) * (R_op g23 (y4_23 - (1 : Int32)).toNatClampNeg)) + zv_6).toNatClampNeg) / (100 : Int32)) &&& 31)))), (8, .int ((R_pl g23 (((8 : Int32) * (R_op g23 (y4_23 - (1 : Int32)).toNatClampNeg)) + zv_6).toNatClampNeg) / (100 : Int32))), (7, .int (R_pl g23 (((8 : Int32) * (R_op g23 (y4_23 - (1 : Int32)).toNatClampNeg)) + zv_6).toNatClampNeg)), (6, .int zv_6), (5, .int (R_op g23 (y4_23 - (1 : Int32)).toNatClampNeg)), (0, .ref h0), (4, .int y4_23)]) hx hb dX3_tree_216 rfl hl (by decide) rfl (fun ls hl => ?_)
                refine lv_iconst (v := 0) hx hb dX3_tree_217 (by decide) ?_
                refine lv_istore (lv' := [(9, .int (0 : Int32)), (1, .long (((31 : Int64) * (((31 : Int64) * (((31 : Int64) * y1_23) + ((R_pl g23 (((8 : Int32) * (R_op g23 (y4_23 - (1 : Int32)).toNatClampNeg)) + zv_6).toNatClampNeg) - (R_pl g23 (((8 : Int32) * (R_op g23 (y4_23 - (1 : Int32)).toNatClampNeg)) + zv_6).toNatClampNeg) / (100 : Int32) * (100 : Int32)).toInt64)) + (2 : Int64))) + (R_size (sR_ln (upd (R_ln g23) (y4_23 - (1 : Int32)).toNatClampNeg ((R_pl g23 (((8 : Int32) * (R_op g23 (y4_23 - (1 : Int32)).toNatClampNeg)) + zv_6).toNatClampNeg) - (R_pl g23 (((8 : Int32) * (R_op g23 (y4_23 - (1 : Int32)).toNatClampNeg)) + zv_6).toNatClampNeg) / (100 : Int32) * (100 : Int32))) g23) ((R_pl g23 (((8 : Int32) * (R_op g23 (y4_23 - (1 : Int32)).toNatClampNeg)) + zv_6).toNatClampNeg) / (100 : Int32)).toNatClampNeg).toInt64)), (3, .int (y3_23 ||| ((1 : Int32) <<< (((R_pl g23 (((8 : Int32) * (R_op g23 (y4_23 - (1 : Int32)).toNatClampNeg)) + zv_6).toNatClampNeg) / (100 : Int32)) &&& 31)))), (8, .int ((R_pl g23 (((8 : Int32) * (R_op g23 (y4_23 - (1 : Int32)).toNatClampNeg)) + zv_6).toNatClampNeg) / (100 : Int32))), (7, .int (R_pl g23 (((8 : Int32) * (R_op g23 (y4_23 - (1 : Int32)).toNatClampNeg)) + zv_6).toNatClampNeg)), (6, .int zv_6), (5, .int (R_op g23 (y4_23 - (1 : Int32)).toNatClampNeg)), (0, .ref h0), (4, .int y4_23)]) hx hb dX3_tree_218 hl (by decide) rfl (fun ls hl => ?_)
                obtain ⟨zv_20, hizv_20, hf⟩ := ob hf
                refine L220 zv_20 (y3_23 ||| ((1 : Int32) <<< (((R_pl g23 (((8 : Int32) * (R_op g23 (y4_23 - (1 : Int32)).toNatClampNeg)) + zv_6).toNatClampNeg) / (100 : Int32)) &&& 31))) y4_23 ((R_pl g23 (((8 : Int32) * (R_op g23 (y4_23 - (1 : Int32)).toNatClampNeg)) + zv_6).toNatClampNeg) / (100 : Int32)) (sR_ln (upd (R_ln g23) (y4_23 - (1 : Int32)).toNatClampNeg ((R_pl g23 (((8 : Int32) * (R_op g23 (y4_23 - (1 : Int32)).toNatClampNeg)) + zv_6).toNatClampNeg) - (R_pl g23 (((8 : Int32) * (R_op g23 (y4_23 - (1 : Int32)).toNatClampNeg)) + zv_6).toNatClampNeg) / (100 : Int32) * (100 : Int32))) g23) (fun H locs ls ev_20 hres hG hl => ?_) 300 (((31 : Int64) * (((31 : Int64) * (((31 : Int64) * y1_23) + ((R_pl g23 (((8 : Int32) * (R_op g23 (y4_23 - (1 : Int32)).toNatClampNeg)) + zv_6).toNatClampNeg) - (R_pl g23 (((8 : Int32) * (R_op g23 (y4_23 - (1 : Int32)).toNatClampNeg)) + zv_6).toNatClampNeg) / (100 : Int32) * (100 : Int32)).toInt64)) + (2 : Int64))) + (R_size (sR_ln (upd (R_ln g23) (y4_23 - (1 : Int32)).toNatClampNeg ((R_pl g23 (((8 : Int32) * (R_op g23 (y4_23 - (1 : Int32)).toNatClampNeg)) + zv_6).toNatClampNeg) - (R_pl g23 (((8 : Int32) * (R_op g23 (y4_23 - (1 : Int32)).toNatClampNeg)) + zv_6).toNatClampNeg) / (100 : Int32) * (100 : Int32))) g23) ((R_pl g23 (((8 : Int32) * (R_op g23 (y4_23 - (1 : Int32)).toNatClampNeg)) + zv_6).toNatClampNeg) / (100 : Int32)).toNatClampNeg).toInt64) (0 : Int32) _ _ _ hG (lv_sub hl [7, 1, 2, 8, 3, 0] rfl) hizv_20
                have hres := hres.symm
                subst hres
                refine lv_goto (tgt := 23) hx hb dX3_tree_274 (by decide) ?_
                have hn := hn23 _ (Option.some.inj hf).symm
                exact ih ev_20 (y3_23 ||| ((1 : Int32) <<< (((R_pl g23 (((8 : Int32) * (R_op g23 (y4_23 - (1 : Int32)).toNatClampNeg)) + zv_6).toNatClampNeg) / (100 : Int32)) &&& 31))) y4_23 (sR_ln (upd (R_ln g23) (y4_23 - (1 : Int32)).toNatClampNeg ((R_pl g23 (((8 : Int32) * (R_op g23 (y4_23 - (1 : Int32)).toNatClampNeg)) + zv_6).toNatClampNeg) - (R_pl g23 (((8 : Int32) * (R_op g23 (y4_23 - (1 : Int32)).toNatClampNeg)) + zv_6).toNatClampNeg) / (100 : Int32) * (100 : Int32))) g23) _ _ _ hG (lv_sub hl [0, 1, 2, 3] rfl) hn
              · have hf := ifT cq_14 hf
                refine lv_ldc2 (v := 31) hx hb B.2.2.2.1 (hts (.constantLong RX3 156 (31)) (by decide +kernel)) dX3_tree_163 ?_
                refine lv_lload_n hx hb dX3_tree_166 rfl (lv_at hl 0 rfl) ?_
                refine lv_lmul hx hb dX3_tree_167 ?_
                refine lv_lconst (v := 1) hx hb dX3_tree_168 (by decide) ?_
                refine lv_ladd hx hb dX3_tree_169 ?_
                refine lv_lstore_n (lv' := [(1, .long (((31 : Int64) * (((31 : Int64) * y1_23) + ((R_pl g23 (((8 : Int32) * (R_op g23 (y4_23 - (1 : Int32)).toNatClampNeg)) + zv_6).toNatClampNeg) - (R_pl g23 (((8 : Int32) * (R_op g23 (y4_23 - (1 : Int32)).toNatClampNeg)) + zv_6).toNatClampNeg) / (100 : Int32) * (100 : Int32)).toInt64)) + (1 : Int64))), (3, .int (y3_23 ||| ((1 : Int32) <<< (((R_pl g23 (((8 : Int32) * (R_op g23 (y4_23 - (1 : Int32)).toNatClampNeg)) + zv_6).toNatClampNeg) / (100 : Int32)) &&& 31)))), (8, .int ((R_pl g23 (((8 : Int32) * (R_op g23 (y4_23 - (1 : Int32)).toNatClampNeg)) + zv_6).toNatClampNeg) / (100 : Int32))), (7, .int (R_pl g23 (((8 : Int32) * (R_op g23 (y4_23 - (1 : Int32)).toNatClampNeg)) + zv_6).toNatClampNeg)), (6, .int zv_6), (5, .int (R_op g23 (y4_23 - (1 : Int32)).toNatClampNeg)), (0, .ref h0), (4, .int y4_23)]) hx hb dX3_tree_170 rfl hl (by decide) rfl (fun ls hl => ?_)
                refine lv_aload_n hx hb dX3_tree_171 rfl (lv_at hl 6 rfl) ?_
                refine g_get hK hG B hinX3 0 rfl rfl 14 (by decide) m_30 rfl dX3_tree_172 ?_
                refine lv_iload hx hb dX3_tree_175 (lv_at hl 7 rfl) ?_
                refine lv_iload hx hb dX3_tree_177 (lv_at hl 2 rfl) ?_
                obtain ⟨vq_21, hf⟩ := chk_s hf
                refine ga_R_op hK hG B vq_21 dX3_tree_179 (fun H locs hG => ?_)
                refine lv_aload_n hx hb dX3_tree_180 rfl (lv_at hl 6 rfl) ?_
                refine g_get hK hG B hinX3 0 rfl rfl 15 (by decide) m_33 rfl dX3_tree_181 ?_
                refine lv_iload hx hb dX3_tree_184 (lv_at hl 7 rfl) ?_
                refine lv_iconst (v := 0) hx hb dX3_tree_186 (by decide) ?_
                obtain ⟨vq_22, hf⟩ := chk_s hf
                refine ga_R_ln hK hG B vq_22 dX3_tree_187 (fun H locs hG => ?_)
                refine lv_iinc (v := (y4_23 + (1 : Int32))) (lv' := [(4, .int (y4_23 + (1 : Int32))), (1, .long (((31 : Int64) * (((31 : Int64) * y1_23) + ((R_pl g23 (((8 : Int32) * (R_op g23 (y4_23 - (1 : Int32)).toNatClampNeg)) + zv_6).toNatClampNeg) - (R_pl g23 (((8 : Int32) * (R_op g23 (y4_23 - (1 : Int32)).toNatClampNeg)) + zv_6).toNatClampNeg) / (100 : Int32) * (100 : Int32)).toInt64)) + (1 : Int64))), (3, .int (y3_23 ||| ((1 : Int32) <<< (((R_pl g23 (((8 : Int32) * (R_op g23 (y4_23 - (1 : Int32)).toNatClampNeg)) + zv_6).toNatClampNeg) / (100 : Int32)) &&& 31)))), (8, .int ((R_pl g23 (((8 : Int32) * (R_op g23 (y4_23 - (1 : Int32)).toNatClampNeg)) + zv_6).toNatClampNeg) / (100 : Int32))), (7, .int (R_pl g23 (((8 : Int32) * (R_op g23 (y4_23 - (1 : Int32)).toNatClampNeg)) + zv_6).toNatClampNeg)), (6, .int zv_6), (5, .int (R_op g23 (y4_23 - (1 : Int32)).toNatClampNeg)), (0, .ref h0)]) hx hb dX3_tree_188 hl (k := 7) rfl rfl (by decide) rfl (fun ls hl => ?_)
                refine lv_goto (tgt := 274) hx hb dX3_tree_191 (by decide) ?_
                refine lv_goto (tgt := 23) hx hb dX3_tree_274 (by decide) ?_
                have hn := hn23 _ (Option.some.inj hf).symm
                exact ih (((31 : Int64) * (((31 : Int64) * y1_23) + ((R_pl g23 (((8 : Int32) * (R_op g23 (y4_23 - (1 : Int32)).toNatClampNeg)) + zv_6).toNatClampNeg) - (R_pl g23 (((8 : Int32) * (R_op g23 (y4_23 - (1 : Int32)).toNatClampNeg)) + zv_6).toNatClampNeg) / (100 : Int32) * (100 : Int32)).toInt64)) + (1 : Int64)) (y3_23 ||| ((1 : Int32) <<< (((R_pl g23 (((8 : Int32) * (R_op g23 (y4_23 - (1 : Int32)).toNatClampNeg)) + zv_6).toNatClampNeg) / (100 : Int32)) &&& 31))) (y4_23 + (1 : Int32)) (sR_ln (upd (R_ln (sR_op (upd (R_op (sR_ln (upd (R_ln g23) (y4_23 - (1 : Int32)).toNatClampNeg ((R_pl g23 (((8 : Int32) * (R_op g23 (y4_23 - (1 : Int32)).toNatClampNeg)) + zv_6).toNatClampNeg) - (R_pl g23 (((8 : Int32) * (R_op g23 (y4_23 - (1 : Int32)).toNatClampNeg)) + zv_6).toNatClampNeg) / (100 : Int32) * (100 : Int32))) g23)) y4_23.toNatClampNeg ((R_pl g23 (((8 : Int32) * (R_op g23 (y4_23 - (1 : Int32)).toNatClampNeg)) + zv_6).toNatClampNeg) / (100 : Int32))) (sR_ln (upd (R_ln g23) (y4_23 - (1 : Int32)).toNatClampNeg ((R_pl g23 (((8 : Int32) * (R_op g23 (y4_23 - (1 : Int32)).toNatClampNeg)) + zv_6).toNatClampNeg) - (R_pl g23 (((8 : Int32) * (R_op g23 (y4_23 - (1 : Int32)).toNatClampNeg)) + zv_6).toNatClampNeg) / (100 : Int32) * (100 : Int32))) g23))) y4_23.toNatClampNeg (0 : Int32)) (sR_op (upd (R_op (sR_ln (upd (R_ln g23) (y4_23 - (1 : Int32)).toNatClampNeg ((R_pl g23 (((8 : Int32) * (R_op g23 (y4_23 - (1 : Int32)).toNatClampNeg)) + zv_6).toNatClampNeg) - (R_pl g23 (((8 : Int32) * (R_op g23 (y4_23 - (1 : Int32)).toNatClampNeg)) + zv_6).toNatClampNeg) / (100 : Int32) * (100 : Int32))) g23)) y4_23.toNatClampNeg ((R_pl g23 (((8 : Int32) * (R_op g23 (y4_23 - (1 : Int32)).toNatClampNeg)) + zv_6).toNatClampNeg) / (100 : Int32))) (sR_ln (upd (R_ln g23) (y4_23 - (1 : Int32)).toNatClampNeg ((R_pl g23 (((8 : Int32) * (R_op g23 (y4_23 - (1 : Int32)).toNatClampNeg)) + zv_6).toNatClampNeg) - (R_pl g23 (((8 : Int32) * (R_op g23 (y4_23 - (1 : Int32)).toNatClampNeg)) + zv_6).toNatClampNeg) / (100 : Int32) * (100 : Int32))) g23))) _ _ _ hG (lv_sub hl [7, 1, 2, 0] rfl) hn
        · have hf := ifF cq_7 hf
          refine lv_ldc2 (v := 31) hx hb B.2.2.2.1 (hts (.constantLong RX3 156 (31)) (by decide +kernel)) dX3_tree_61 ?_
          refine lv_lload_n hx hb dX3_tree_64 rfl (lv_at hl 3 rfl) ?_
          refine lv_lmul hx hb dX3_tree_65 ?_
          refine lv_ldc2 (v := 9) hx hb B.2.2.2.1 (hts (.constantLong RX3 138 (9)) (by decide +kernel)) dX3_tree_66 ?_
          refine lv_ladd hx hb dX3_tree_69 ?_
          refine lv_lstore_n (lv' := [(1, .long (((31 : Int64) * y1_23) + (9 : Int64))), (6, .int zv_6), (5, .int (R_op g23 (y4_23 - (1 : Int32)).toNatClampNeg)), (0, .ref h0), (3, .int y3_23), (4, .int y4_23)]) hx hb dX3_tree_70 rfl hl (by decide) rfl (fun ls hl => ?_)
          refine lv_iinc (v := (y4_23 + (-1 : Int32))) (lv' := [(4, .int (y4_23 + (-1 : Int32))), (1, .long (((31 : Int64) * y1_23) + (9 : Int64))), (6, .int zv_6), (5, .int (R_op g23 (y4_23 - (1 : Int32)).toNatClampNeg)), (0, .ref h0), (3, .int y3_23)]) hx hb dX3_tree_71 hl (k := 5) rfl rfl (by decide) rfl (fun ls hl => ?_)
          refine lv_goto (tgt := 274) hx hb dX3_tree_74 (by decide) ?_
          refine lv_goto (tgt := 23) hx hb dX3_tree_274 (by decide) ?_
          have hn := hn23 _ (Option.some.inj hf).symm
          exact ih (((31 : Int64) * y1_23) + (9 : Int64)) y3_23 (y4_23 + (-1 : Int32)) g23 _ _ _ hG (lv_sub hl [4, 1, 5, 0] rfl) hn
  unfold f_X3_tree at hf
  refine lv_ldc2 (v := 156) hx hb B.2.2.2.1 (hts (.constantLong RX3 151 (156)) (by decide +kernel)) dX3_tree_0 ?_
  refine lv_lstore_n (lv' := [(1, .long (156 : Int64)), (0, .ref h0)]) hx hb dX3_tree_3 rfl hl (by decide) rfl (fun ls hl => ?_)
  refine lv_iconst (v := 1) hx hb dX3_tree_4 (by decide) ?_
  refine lv_istore_n (lv' := [(3, .int (1 : Int32)), (1, .long (156 : Int64)), (0, .ref h0)]) hx hb dX3_tree_5 rfl hl (by decide) rfl (fun ls hl => ?_)
  refine lv_iconst (v := 1) hx hb dX3_tree_6 (by decide) ?_
  refine lv_istore (lv' := [(4, .int (1 : Int32)), (3, .int (1 : Int32)), (1, .long (156 : Int64)), (0, .ref h0)]) hx hb dX3_tree_7 hl (by decide) rfl (fun ls hl => ?_)
  refine lv_aload_n hx hb dX3_tree_9 rfl (lv_at hl 3 rfl) ?_
  refine g_get hK hG B hinX3 0 rfl rfl 14 (by decide) m_30 rfl dX3_tree_10 ?_
  refine lv_iconst (v := 0) hx hb dX3_tree_13 (by decide) ?_
  refine lv_iconst (v := 0) hx hb dX3_tree_14 (by decide) ?_
  obtain ⟨vq_1, hf⟩ := chk_s hf
  refine ga_R_op hK hG B vq_1 dX3_tree_15 (fun H locs hG => ?_)
  refine lv_aload_n hx hb dX3_tree_16 rfl (lv_at hl 3 rfl) ?_
  refine g_get hK hG B hinX3 0 rfl rfl 15 (by decide) m_33 rfl dX3_tree_17 ?_
  refine lv_iconst (v := 0) hx hb dX3_tree_20 (by decide) ?_
  refine lv_iconst (v := 0) hx hb dX3_tree_21 (by decide) ?_
  obtain ⟨vq_2, hf⟩ := chk_s hf
  refine ga_R_ln hK hG B vq_2 dX3_tree_22 (fun H locs hG => ?_)
  obtain ⟨zv_23, hizv_23, hf⟩ := ob hf
  refine L23 zv_23  (fun H locs ls ev_23 hres hG hl => ?_) 300 (156 : Int64) (1 : Int32) (1 : Int32) (sR_ln (upd (R_ln (sR_op (upd (R_op g) (0 : Int32).toNatClampNeg (0 : Int32)) g)) (0 : Int32).toNatClampNeg (0 : Int32)) (sR_op (upd (R_op g) (0 : Int32).toNatClampNeg (0 : Int32)) g)) _ _ _ hG (lv_sub hl [3, 2, 1, 0] rfl) hizv_23
  have hres := hres.symm
  subst hres
  refine lv_lload_n hx hb dX3_tree_277 rfl (lv_at hl 0 rfl) ?_
  have hf := Option.some.inj hf
  obtain ⟨e1, e2⟩ := Prod.mk.inj hf
  subst e2
  exact g_lret hr hlk hK hG B e1 dX3_tree_278
def b_X3_digest_15 (y3_15 : Int32) (g : RS) (y1_15 : Int64) (y4_15 : Int32) : Option ((Int64) ⊕ (Int64 × Int32)) := (if (10 : Int32) ≤ y4_15 then some (.inl y1_15) else ((f_X3_inodeOf y3_15 y4_15 g).bind (fun zv_3 => some (.inr ((((31 : Int64) * y1_15) + zv_3.toInt64), (y4_15 + (1 : Int32)))))))
def b_X3_digest_6  (g : RS) (y1_6 : Int64) (y3_6 : Int32) : Option ((Int64) ⊕ (Int64 × Int32)) := (if (12 : Int32) ≤ y3_6 then some (.inl y1_6) else ((itl (fun a : Int64 × Int32 => b_X3_digest_15 y3_6 g a.1 a.2) 300 (y1_6, (0 : Int32))).bind (fun ev_4 => some (.inr (ev_4, (y3_6 + (1 : Int32)))))))
def b_X3_digest_51  (g : RS) (y1_51 : Int64) (y3_51 : Int32) : Option ((Int64) ⊕ (Int64 × Int32)) := (if (120 : Int32) ≤ y3_51 then some (.inl y1_51) else (chk y3_51 120 (some (.inr ((((31 : Int64) * y1_51) + (R_ws g y3_51.toNatClampNeg)), (y3_51 + (1 : Int32)))))))
def b_X3_digest_78  (g : RS) (y1_78 : Int64) (y3_78 : Int32) : Option ((Int64) ⊕ (Int64 × Int32)) := (if (4 : Int32) ≤ y3_78 then some (.inl y1_78) else (chk y3_78 4 (some (.inr ((((31 : Int64) * y1_78) + (R_rec g y3_78.toNatClampNeg).toInt64), (y3_78 + (1 : Int32)))))))
def f_X3_digest  (g : RS) : Option Int64 := ((itl (fun a : Int64 × Int32 => b_X3_digest_6  g a.1 a.2) 300 ((3 : Int64), (0 : Int32))).bind (fun ev_5 => ((itl (fun a : Int64 × Int32 => b_X3_digest_51  g a.1 a.2) 300 (ev_5, (0 : Int32))).bind (fun ev_8 => ((itl (fun a : Int64 × Int32 => b_X3_digest_78  g a.1 a.2) 300 (ev_8, (0 : Int32))).bind (fun ev_11 => some (((31 : Int64) * ev_11) + (f_X3_isDown  g).toInt64)))))))
set_option maxHeartbeats 4000000 in
set_option maxRecDepth 100000 in
theorem c_X3_digest (l : Launch) (D : va_G) (cI cJ : ClassId) (h0 qk qs qp qw qr qo qn sz : Nat) (g : RS)  (r : Int64) (hf : f_X3_digest  g = some r) : Met l yX3_digest wsX3_digest { frames := 1, cells := 0, slots := 0, locals := 22 } (gPc D (gT cI cJ) sz (wR h0 qk qs qp qw qr qo qn cI cJ g) [.ref h0]) (gQl D (gT cI cJ) (va_A (wR h0 qk qs qp qw qr qo qn cI cJ g) sz) r (wR h0 qk qs qp qw qr qo qn cI cJ g)) 0 0 (va_A (wR h0 qk qs qp qw qr qo qn cI cJ g) sz) := by
  refine gMet (cc := cX3_digest) (maxL := 5) (ret := (some .long)) (by decide) rfl ?_ (Nat.le_of_ble_eq_true rfl)
  intro p e0 s m below meth c ls B hr hlk hsz hK hG hl
  have hA : ∀ q : Nat, s.heap.size ≤ q → va_A (wR h0 qk qs qp qw qr qo qn cI cJ g) sz q := fun q h => Or.inr (hsz ▸ h)
  have hx := B.1
  have hb := B.2.1
  have hts := B.2.2.2.2
  have hl : lv_has ls 5 [(0, .ref h0)] := hl
  generalize va_A (wR h0 qk qs qp qw qr qo qn cI cJ g) sz = A at hA hG ⊢
  have hinX3 : ∀ x ∈ wsX30, x ∈ wsX3_digest := by decide +kernel
  have m_19 : Cond.fieldLink RX3 19 "BlockMoverModel" "words" "[J" ∈ wsX3_digest := by decide +kernel
  have m_23 : Cond.fieldLink RX3 23 "BlockMoverModel" "rec" "[I" ∈ wsX3_digest := by decide +kernel
  have L15 : ∀ (res : (Int64)) (y3_15 : Int32), (∀ (H1 : Heap) (locs1 : List Loc) (ls1 : Array Slot) (e : Int64), res = e → gG D A s.heap (wR h0 qk qs qp qw qr qo qn cI cJ g) H1 locs1 → lv_has ls1 5 [(0, .ref h0), (1, .long e), (3, .int y3_15)] → W p l e0 { frames := 1, cells := 0, slots := 0, locals := 22 } s m ([.ref h0] : List Value).toArray below meth c H1 locs1 0 0 (MQ below (gQl D (gT cI cJ) A r (wR h0 qk qs qp qw qr qo qn cI cJ g)) ([.ref h0] : List Value).toArray s 0 0 A) (F0 m 43 ls1 [])) → ∀ (n : Nat) (y1_15 : Int64) (y4_15 : Int32) (H : Heap) (locs : List Loc) (ls : Array Slot), gG D A s.heap (wR h0 qk qs qp qw qr qo qn cI cJ g) H locs → lv_has ls 5 [(0, .ref h0), (1, .long y1_15), (3, .int y3_15), (4, .int y4_15)] → itl (fun a : Int64 × Int32 => b_X3_digest_15 y3_15 g a.1 a.2) n (y1_15, y4_15) = some res → W p l e0 { frames := 1, cells := 0, slots := 0, locals := 22 } s m ([.ref h0] : List Value).toArray below meth c H locs 0 0 (MQ below (gQl D (gT cI cJ) A r (wR h0 qk qs qp qw qr qo qn cI cJ g)) ([.ref h0] : List Value).toArray s 0 0 A) (F0 m 15 ls []) := by
    intro res y3_15 hKe15 n
    induction n with
    | zero => exact fun y1_15 y4_15 H locs ls hG hl hf => (itl_0 hf).elim
    | succ n ih =>
      intro y1_15 y4_15 H locs ls hG hl hf
      obtain ⟨o, hf, ho15, hn15⟩ := itl_s hf
      have hf : b_X3_digest_15 y3_15 g y1_15 y4_15 = some o := hf
      unfold b_X3_digest_15 at hf
      refine lv_iload hx hb dX3_digest_15 (lv_at hl 3 rfl) ?_
      refine lv_bipush (v := 10) hx hb dX3_digest_17 (by decide) ?_
      refine lv_icmp_ge (tgt := 43) hx hb dX3_digest_19 (by decide) (fun cq_2 => ?_) (fun cq_2 => ?_)
      · have hf := ifT cq_2 hf
        have hres := ho15 _ (Option.some.inj hf).symm
        exact hKe15 _ _ _ y1_15 hres.symm hG (lv_sub hl [0, 1, 2] rfl)
      · have hf := ifF cq_2 hf
        refine lv_ldc2 (v := 31) hx hb B.2.2.2.1 (hts (.constantLong RX3 156 (31)) (by decide +kernel)) dX3_digest_22 ?_
        refine lv_lload_n hx hb dX3_digest_25 rfl (lv_at hl 1 rfl) ?_
        refine lv_lmul hx hb dX3_digest_26 ?_
        refine lv_aload_n hx hb dX3_digest_27 rfl (lv_at hl 0 rfl) ?_
        refine lv_iload_n hx hb dX3_digest_28 rfl (lv_at hl 2 rfl) ?_
        refine lv_iload hx hb dX3_digest_29 (lv_at hl 3 rfl) ?_
        obtain ⟨zv_3, hqzv_3, hf⟩ := ob hf
        refine gc_Vi hA hK hl.1 hG B (c_X3_inodeOf l D cI cJ h0 qk qs qp qw qr qo qn _ g y3_15 y4_15 _ hqzv_3) (cwV 2 hts gX3_digest_X3_inodeOf rfl rfl rfl (by decide +kernel) ⟨by decide, by decide⟩) 0 rfl rfl rfl rfl rfl (Nat.le_of_ble_eq_true rfl) dX3_digest_31 ⟨Nat.zero_le _, Nat.zero_le _⟩ (fun H locs hG => ?_)
        refine lv_i2l hx hb dX3_digest_34 rfl ?_
        refine lv_ladd hx hb dX3_digest_35 ?_
        refine lv_lstore_n (lv' := [(1, .long (((31 : Int64) * y1_15) + zv_3.toInt64)), (0, .ref h0), (3, .int y3_15), (4, .int y4_15)]) hx hb dX3_digest_36 rfl hl (by decide) rfl (fun ls hl => ?_)
        refine lv_iinc (v := (y4_15 + (1 : Int32))) (lv' := [(4, .int (y4_15 + (1 : Int32))), (1, .long (((31 : Int64) * y1_15) + zv_3.toInt64)), (0, .ref h0), (3, .int y3_15)]) hx hb dX3_digest_37 hl (k := 3) rfl rfl (by decide) rfl (fun ls hl => ?_)
        refine lv_goto (tgt := 15) hx hb dX3_digest_40 (by decide) ?_
        have hn := hn15 _ (Option.some.inj hf).symm
        exact ih (((31 : Int64) * y1_15) + zv_3.toInt64) (y4_15 + (1 : Int32)) _ _ _ hG (lv_sub hl [2, 1, 3, 0] rfl) hn
  have L6 : ∀ (res : (Int64)) , (∀ (H1 : Heap) (locs1 : List Loc) (ls1 : Array Slot) (e : Int64), res = e → gG D A s.heap (wR h0 qk qs qp qw qr qo qn cI cJ g) H1 locs1 → lv_has ls1 5 [(0, .ref h0), (1, .long e)] → W p l e0 { frames := 1, cells := 0, slots := 0, locals := 22 } s m ([.ref h0] : List Value).toArray below meth c H1 locs1 0 0 (MQ below (gQl D (gT cI cJ) A r (wR h0 qk qs qp qw qr qo qn cI cJ g)) ([.ref h0] : List Value).toArray s 0 0 A) (F0 m 49 ls1 [])) → ∀ (n : Nat) (y1_6 : Int64) (y3_6 : Int32) (H : Heap) (locs : List Loc) (ls : Array Slot), gG D A s.heap (wR h0 qk qs qp qw qr qo qn cI cJ g) H locs → lv_has ls 5 [(0, .ref h0), (1, .long y1_6), (3, .int y3_6)] → itl (fun a : Int64 × Int32 => b_X3_digest_6  g a.1 a.2) n (y1_6, y3_6) = some res → W p l e0 { frames := 1, cells := 0, slots := 0, locals := 22 } s m ([.ref h0] : List Value).toArray below meth c H locs 0 0 (MQ below (gQl D (gT cI cJ) A r (wR h0 qk qs qp qw qr qo qn cI cJ g)) ([.ref h0] : List Value).toArray s 0 0 A) (F0 m 6 ls []) := by
    intro res  hKe6 n
    induction n with
    | zero => exact fun y1_6 y3_6 H locs ls hG hl hf => (itl_0 hf).elim
    | succ n ih =>
      intro y1_6 y3_6 H locs ls hG hl hf
      obtain ⟨o, hf, ho6, hn6⟩ := itl_s hf
      have hf : b_X3_digest_6  g y1_6 y3_6 = some o := hf
      unfold b_X3_digest_6 at hf
      refine lv_iload_n hx hb dX3_digest_6 rfl (lv_at hl 2 rfl) ?_
      refine lv_bipush (v := 12) hx hb dX3_digest_7 (by decide) ?_
      refine lv_icmp_ge (tgt := 49) hx hb dX3_digest_9 (by decide) (fun cq_1 => ?_) (fun cq_1 => ?_)
      · have hf := ifT cq_1 hf
        have hres := ho6 _ (Option.some.inj hf).symm
        exact hKe6 _ _ _ y1_6 hres.symm hG (lv_sub hl [0, 1] rfl)
      · have hf := ifF cq_1 hf
        refine lv_iconst (v := 0) hx hb dX3_digest_12 (by decide) ?_
        refine lv_istore (lv' := [(4, .int (0 : Int32)), (0, .ref h0), (1, .long y1_6), (3, .int y3_6)]) hx hb dX3_digest_13 hl (by decide) rfl (fun ls hl => ?_)
        obtain ⟨zv_4, hizv_4, hf⟩ := ob hf
        refine L15 zv_4 y3_6 (fun H locs ls ev_4 hres hG hl => ?_) 300 y1_6 (0 : Int32) _ _ _ hG (lv_sub hl [1, 2, 3, 0] rfl) hizv_4
        have hres := hres.symm
        subst hres
        refine lv_iinc (v := (y3_6 + (1 : Int32))) (lv' := [(3, .int (y3_6 + (1 : Int32))), (0, .ref h0), (1, .long ev_4)]) hx hb dX3_digest_43 hl (k := 2) rfl rfl (by decide) rfl (fun ls hl => ?_)
        refine lv_goto (tgt := 6) hx hb dX3_digest_46 (by decide) ?_
        have hn := hn6 _ (Option.some.inj hf).symm
        exact ih ev_4 (y3_6 + (1 : Int32)) _ _ _ hG (lv_sub hl [1, 2, 0] rfl) hn
  have L51 : ∀ (res : (Int64)) , (∀ (H1 : Heap) (locs1 : List Loc) (ls1 : Array Slot) (e : Int64), res = e → gG D A s.heap (wR h0 qk qs qp qw qr qo qn cI cJ g) H1 locs1 → lv_has ls1 5 [(0, .ref h0), (1, .long e)] → W p l e0 { frames := 1, cells := 0, slots := 0, locals := 22 } s m ([.ref h0] : List Value).toArray below meth c H1 locs1 0 0 (MQ below (gQl D (gT cI cJ) A r (wR h0 qk qs qp qw qr qo qn cI cJ g)) ([.ref h0] : List Value).toArray s 0 0 A) (F0 m 76 ls1 [])) → ∀ (n : Nat) (y1_51 : Int64) (y3_51 : Int32) (H : Heap) (locs : List Loc) (ls : Array Slot), gG D A s.heap (wR h0 qk qs qp qw qr qo qn cI cJ g) H locs → lv_has ls 5 [(0, .ref h0), (1, .long y1_51), (3, .int y3_51)] → itl (fun a : Int64 × Int32 => b_X3_digest_51  g a.1 a.2) n (y1_51, y3_51) = some res → W p l e0 { frames := 1, cells := 0, slots := 0, locals := 22 } s m ([.ref h0] : List Value).toArray below meth c H locs 0 0 (MQ below (gQl D (gT cI cJ) A r (wR h0 qk qs qp qw qr qo qn cI cJ g)) ([.ref h0] : List Value).toArray s 0 0 A) (F0 m 51 ls []) := by
    intro res  hKe51 n
    induction n with
    | zero => exact fun y1_51 y3_51 H locs ls hG hl hf => (itl_0 hf).elim
    | succ n ih =>
      intro y1_51 y3_51 H locs ls hG hl hf
      obtain ⟨o, hf, ho51, hn51⟩ := itl_s hf
      have hf : b_X3_digest_51  g y1_51 y3_51 = some o := hf
      unfold b_X3_digest_51 at hf
      refine lv_iload_n hx hb dX3_digest_51 rfl (lv_at hl 2 rfl) ?_
      refine lv_bipush (v := 120) hx hb dX3_digest_52 (by decide) ?_
      refine lv_icmp_ge (tgt := 76) hx hb dX3_digest_54 (by decide) (fun cq_6 => ?_) (fun cq_6 => ?_)
      · have hf := ifT cq_6 hf
        have hres := ho51 _ (Option.some.inj hf).symm
        exact hKe51 _ _ _ y1_51 hres.symm hG (lv_sub hl [0, 1] rfl)
      · have hf := ifF cq_6 hf
        refine lv_ldc2 (v := 31) hx hb B.2.2.2.1 (hts (.constantLong RX3 156 (31)) (by decide +kernel)) dX3_digest_57 ?_
        refine lv_lload_n hx hb dX3_digest_60 rfl (lv_at hl 1 rfl) ?_
        refine lv_lmul hx hb dX3_digest_61 ?_
        refine lv_aload_n hx hb dX3_digest_62 rfl (lv_at hl 0 rfl) ?_
        refine g_get hK hG B hinX3 0 rfl rfl 3 (by decide) m_19 rfl dX3_digest_63 ?_
        refine lv_iload_n hx hb dX3_digest_66 rfl (lv_at hl 2 rfl) ?_
        obtain ⟨vq_7, hf⟩ := chk_s hf
        refine g_lald hK hG B 4 rfl vq_7 dX3_digest_67 ?_
        refine lv_ladd hx hb dX3_digest_68 ?_
        refine lv_lstore_n (lv' := [(1, .long (((31 : Int64) * y1_51) + (R_ws g y3_51.toNatClampNeg))), (0, .ref h0), (3, .int y3_51)]) hx hb dX3_digest_69 rfl hl (by decide) rfl (fun ls hl => ?_)
        refine lv_iinc (v := (y3_51 + (1 : Int32))) (lv' := [(3, .int (y3_51 + (1 : Int32))), (1, .long (((31 : Int64) * y1_51) + (R_ws g y3_51.toNatClampNeg))), (0, .ref h0)]) hx hb dX3_digest_70 hl (k := 2) rfl rfl (by decide) rfl (fun ls hl => ?_)
        refine lv_goto (tgt := 51) hx hb dX3_digest_73 (by decide) ?_
        have hn := hn51 _ (Option.some.inj hf).symm
        exact ih (((31 : Int64) * y1_51) + (R_ws g y3_51.toNatClampNeg)) (y3_51 + (1 : Int32)) _ _ _ hG (lv_sub hl [2, 1, 0] rfl) hn
  have L78 : ∀ (res : (Int64)) , (∀ (H1 : Heap) (locs1 : List Loc) (ls1 : Array Slot) (e : Int64), res = e → gG D A s.heap (wR h0 qk qs qp qw qr qo qn cI cJ g) H1 locs1 → lv_has ls1 5 [(0, .ref h0), (1, .long e)] → W p l e0 { frames := 1, cells := 0, slots := 0, locals := 22 } s m ([.ref h0] : List Value).toArray below meth c H1 locs1 0 0 (MQ below (gQl D (gT cI cJ) A r (wR h0 qk qs qp qw qr qo qn cI cJ g)) ([.ref h0] : List Value).toArray s 0 0 A) (F0 m 103 ls1 [])) → ∀ (n : Nat) (y1_78 : Int64) (y3_78 : Int32) (H : Heap) (locs : List Loc) (ls : Array Slot), gG D A s.heap (wR h0 qk qs qp qw qr qo qn cI cJ g) H locs → lv_has ls 5 [(0, .ref h0), (1, .long y1_78), (3, .int y3_78)] → itl (fun a : Int64 × Int32 => b_X3_digest_78  g a.1 a.2) n (y1_78, y3_78) = some res → W p l e0 { frames := 1, cells := 0, slots := 0, locals := 22 } s m ([.ref h0] : List Value).toArray below meth c H locs 0 0 (MQ below (gQl D (gT cI cJ) A r (wR h0 qk qs qp qw qr qo qn cI cJ g)) ([.ref h0] : List Value).toArray s 0 0 A) (F0 m 78 ls []) := by
    intro res  hKe78 n
    induction n with
    | zero => exact fun y1_78 y3_78 H locs ls hG hl hf => (itl_0 hf).elim
    | succ n ih =>
      intro y1_78 y3_78 H locs ls hG hl hf
      obtain ⟨o, hf, ho78, hn78⟩ := itl_s hf
      have hf : b_X3_digest_78  g y1_78 y3_78 = some o := hf
      unfold b_X3_digest_78 at hf
      refine lv_iload_n hx hb dX3_digest_78 rfl (lv_at hl 2 rfl) ?_
      refine lv_iconst (v := 4) hx hb dX3_digest_79 (by decide) ?_
      refine lv_icmp_ge (tgt := 103) hx hb dX3_digest_80 (by decide) (fun cq_9 => ?_) (fun cq_9 => ?_)
      · have hf := ifT cq_9 hf
        have hres := ho78 _ (Option.some.inj hf).symm
        exact hKe78 _ _ _ y1_78 hres.symm hG (lv_sub hl [0, 1] rfl)
      · have hf := ifF cq_9 hf
        refine lv_ldc2 (v := 31) hx hb B.2.2.2.1 (hts (.constantLong RX3 156 (31)) (by decide +kernel)) dX3_digest_83 ?_
        refine lv_lload_n hx hb dX3_digest_86 rfl (lv_at hl 1 rfl) ?_
        refine lv_lmul hx hb dX3_digest_87 ?_
        refine lv_aload_n hx hb dX3_digest_88 rfl (lv_at hl 0 rfl) ?_
        refine g_get hK hG B hinX3 0 rfl rfl 4 (by decide) m_23 rfl dX3_digest_89 ?_
        refine lv_iload_n hx hb dX3_digest_92 rfl (lv_at hl 2 rfl) ?_
        obtain ⟨vq_10, hf⟩ := chk_s hf
        refine g_iald hK hG B 5 rfl vq_10 dX3_digest_93 ?_
        refine lv_i2l hx hb dX3_digest_94 rfl ?_
        refine lv_ladd hx hb dX3_digest_95 ?_
        refine lv_lstore_n (lv' := [(1, .long (((31 : Int64) * y1_78) + (R_rec g y3_78.toNatClampNeg).toInt64)), (0, .ref h0), (3, .int y3_78)]) hx hb dX3_digest_96 rfl hl (by decide) rfl (fun ls hl => ?_)
        refine lv_iinc (v := (y3_78 + (1 : Int32))) (lv' := [(3, .int (y3_78 + (1 : Int32))), (1, .long (((31 : Int64) * y1_78) + (R_rec g y3_78.toNatClampNeg).toInt64)), (0, .ref h0)]) hx hb dX3_digest_97 hl (k := 2) rfl rfl (by decide) rfl (fun ls hl => ?_)
        refine lv_goto (tgt := 78) hx hb dX3_digest_100 (by decide) ?_
        have hn := hn78 _ (Option.some.inj hf).symm
        exact ih (((31 : Int64) * y1_78) + (R_rec g y3_78.toNatClampNeg).toInt64) (y3_78 + (1 : Int32)) _ _ _ hG (lv_sub hl [2, 1, 0] rfl) hn
  unfold f_X3_digest at hf
  refine lv_ldc2 (v := 3) hx hb B.2.2.2.1 (hts (.constantLong RX3 149 (3)) (by decide +kernel)) dX3_digest_0 ?_
  refine lv_lstore_n (lv' := [(1, .long (3 : Int64)), (0, .ref h0)]) hx hb dX3_digest_3 rfl hl (by decide) rfl (fun ls hl => ?_)
  refine lv_iconst (v := 0) hx hb dX3_digest_4 (by decide) ?_
  refine lv_istore_n (lv' := [(3, .int (0 : Int32)), (1, .long (3 : Int64)), (0, .ref h0)]) hx hb dX3_digest_5 rfl hl (by decide) rfl (fun ls hl => ?_)
  obtain ⟨zv_5, hizv_5, hf⟩ := ob hf
  refine L6 zv_5  (fun H locs ls ev_5 hres hG hl => ?_) 300 (3 : Int64) (0 : Int32) _ _ _ hG (lv_sub hl [2, 1, 0] rfl) hizv_5
  have hres := hres.symm
  subst hres
  refine lv_iconst (v := 0) hx hb dX3_digest_49 (by decide) ?_
  refine lv_istore_n (lv' := [(3, .int (0 : Int32)), (0, .ref h0), (1, .long ev_5)]) hx hb dX3_digest_50 rfl hl (by decide) rfl (fun ls hl => ?_)
  obtain ⟨zv_8, hizv_8, hf⟩ := ob hf
  refine L51 zv_8  (fun H locs ls ev_8 hres hG hl => ?_) 300 ev_5 (0 : Int32) _ _ _ hG (lv_sub hl [1, 2, 0] rfl) hizv_8
  have hres := hres.symm
  subst hres
  refine lv_iconst (v := 0) hx hb dX3_digest_76 (by decide) ?_
  refine lv_istore_n (lv' := [(3, .int (0 : Int32)), (0, .ref h0), (1, .long ev_8)]) hx hb dX3_digest_77 rfl hl (by decide) rfl (fun ls hl => ?_)
  obtain ⟨zv_11, hizv_11, hf⟩ := ob hf
  refine L78 zv_11  (fun H locs ls ev_11 hres hG hl => ?_) 300 ev_8 (0 : Int32) _ _ _ hG (lv_sub hl [1, 2, 0] rfl) hizv_11
  have hres := hres.symm
  subst hres
  refine lv_ldc2 (v := 31) hx hb B.2.2.2.1 (hts (.constantLong RX3 156 (31)) (by decide +kernel)) dX3_digest_103 ?_
  refine lv_lload_n hx hb dX3_digest_106 rfl (lv_at hl 1 rfl) ?_
  refine lv_lmul hx hb dX3_digest_107 ?_
  refine lv_aload_n hx hb dX3_digest_108 rfl (lv_at hl 0 rfl) ?_
  refine gc_Vi hA hK hl.1 hG B (c_X3_isDown l D cI cJ h0 qk qs qp qw qr qo qn _ g  _ rfl) (cwV 0 hts gX3_digest_X3_isDown rfl rfl rfl (by decide +kernel) ⟨by decide, by decide⟩) 0 rfl rfl rfl rfl rfl (Nat.le_of_ble_eq_true rfl) dX3_digest_109 ⟨Nat.zero_le _, Nat.zero_le _⟩ (fun H locs hG => ?_)
  refine lv_i2l hx hb dX3_digest_112 rfl ?_
  refine lv_ladd hx hb dX3_digest_113 ?_
  have hf := Option.some.inj hf
  exact g_lret hr hlk hK hG B hf dX3_digest_114
