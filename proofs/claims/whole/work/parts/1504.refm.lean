def b_X3_look_12 (y2_12 : Int32) (y1_12 : Int32) (y3_12 : Int32) (g12 : RS) : Option ((((Int32 × RS)) ⊕ (Int32 × RS)) ⊕ (Int32 × Int32 × RS)) := (chk y2_12 12 ((if (R_kind g12 y2_12.toNatClampNeg) = (2 : Int32) then (chk y2_12 12 ((if (R_size g12 y2_12.toNatClampNeg) ≤ y3_12 then some (.inl (.inr (y1_12, g12))) else (chk (((8 : Int32) * y2_12) + y3_12) 96 ((if (R_pl g12 (((8 : Int32) * y2_12) + y3_12).toNatClampNeg) = y1_12 then some (.inr ((y1_12 + (1 : Int32)), (y3_12 + (1 : Int32)), g12)) else ((f_X3_lookAt y2_12 y3_12 y1_12 g12).bind (fun zv_8 => some (.inl (.inl (zv_8.1, zv_8.2))))))))))) else some (.inl (.inr (y1_12, g12))))))
def b_X3_look_4  (y1_4 : Int32) (y2_4 : Int32) (g4 : RS) : Option ((((Int32 × RS)) ⊕ (RS)) ⊕ (Int32 × Int32 × RS)) := (if (12 : Int32) ≤ y2_4 then some (.inl (.inr g4)) else ((itl (fun a : Int32 × Int32 × RS => b_X3_look_12 y2_4 a.1 a.2.1 a.2.2) 300 (y1_4, (0 : Int32), g4)).bind (fun zv_9 => Sum.elim (fun v => some (.inl (.inl v))) (fun ev_9 => some (.inr (ev_9.1, (y2_4 + (1 : Int32)), ev_9.2))) zv_9)))
def f_X3_look  (g : RS) : Option (Int32 × RS) := ((itl (fun a : Int32 × Int32 × RS => b_X3_look_4  a.1 a.2.1 a.2.2) 300 ((0 : Int32), (0 : Int32), g)).bind (fun zv_10 => Sum.elim (fun v => some v) (fun ev_10 => some ((0 : Int32), ev_10)) zv_10))
set_option maxHeartbeats 4000000 in
set_option maxRecDepth 100000 in
theorem c_X3_look (l : Launch) (D : va_G) (cI cJ : ClassId) (h0 qk qs qp qw qr qo qn sz : Nat) (g : RS)  (r : Int32) (g1 : RS) (hf : f_X3_look  g = some (r, g1)) : Met l yX3_look wsX3_look { frames := 3, cells := 0, slots := 0, locals := 69 } (gPc D (gT cI cJ) sz (wR h0 qk qs qp qw qr qo qn cI cJ g) [.ref h0]) (gQi D (gT cI cJ) (va_A (wR h0 qk qs qp qw qr qo qn cI cJ g) sz) r (wR h0 qk qs qp qw qr qo qn cI cJ g1)) 0 0 (va_A (wR h0 qk qs qp qw qr qo qn cI cJ g) sz) := by
  refine gMet (cc := cX3_look) (maxL := 4) (ret := (some .int)) (by decide) rfl ?_ (Nat.le_of_ble_eq_true rfl)
  intro p e0 s m below meth c ls B hr hlk hsz hK hG hl
  have hA : ∀ q : Nat, s.heap.size ≤ q → va_A (wR h0 qk qs qp qw qr qo qn cI cJ g) sz q := fun q h => Or.inr (hsz ▸ h)
  have hx := B.1
  have hb := B.2.1
  have hts := B.2.2.2.2
  have hl : lv_has ls 4 [(0, .ref h0)] := hl
  generalize va_A (wR h0 qk qs qp qw qr qo qn cI cJ g) sz = A at hA hG ⊢
  have hinX3 : ∀ x ∈ wsX30, x ∈ wsX3_look := by decide +kernel
  have m_7 : Cond.fieldLink RX3 7 "BlockMoverModel" "kind" "[I" ∈ wsX3_look := by decide +kernel
  have m_13 : Cond.fieldLink RX3 13 "BlockMoverModel" "size" "[I" ∈ wsX3_look := by decide +kernel
  have m_16 : Cond.fieldLink RX3 16 "BlockMoverModel" "places" "[I" ∈ wsX3_look := by decide +kernel
  have L12 : ∀ (res : (((Int32 × RS)) ⊕ (Int32 × RS))) (y2_12 : Int32), (∀ v, res = .inl v → v = (r, g1)) → (∀ (H1 : Heap) (locs1 : List Loc) (ls1 : Array Slot) (e : Int32 × RS), res = .inr e → gG D A s.heap (wR h0 qk qs qp qw qr qo qn cI cJ e.2) H1 locs1 → lv_has ls1 4 [(0, .ref h0), (1, .int e.1), (2, .int y2_12)] → W p l e0 { frames := 3, cells := 0, slots := 0, locals := 69 } s m ([.ref h0] : List Value).toArray below meth c H1 locs1 0 0 (MQ below (gQi D (gT cI cJ) A r (wR h0 qk qs qp qw qr qo qn cI cJ g1)) ([.ref h0] : List Value).toArray s 0 0 A) (F0 m 64 ls1 [])) → ∀ (n : Nat) (y1_12 : Int32) (y3_12 : Int32) (g12 : RS) (H : Heap) (locs : List Loc) (ls : Array Slot), gG D A s.heap (wR h0 qk qs qp qw qr qo qn cI cJ g12) H locs → lv_has ls 4 [(0, .ref h0), (1, .int y1_12), (2, .int y2_12), (3, .int y3_12)] → itl (fun a : Int32 × Int32 × RS => b_X3_look_12 y2_12 a.1 a.2.1 a.2.2) n (y1_12, y3_12, g12) = some res → W p l e0 { frames := 3, cells := 0, slots := 0, locals := 69 } s m ([.ref h0] : List Value).toArray below meth c H locs 0 0 (MQ below (gQi D (gT cI cJ) A r (wR h0 qk qs qp qw qr qo qn cI cJ g1)) ([.ref h0] : List Value).toArray s 0 0 A) (F0 m 12 ls []) := by
    intro res y2_12 hKr12 hKe12 n
    induction n with
    | zero => exact fun y1_12 y3_12 g12 H locs ls hG hl hf => (itl_0 hf).elim
    | succ n ih =>
      intro y1_12 y3_12 g12 H locs ls hG hl hf
      obtain ⟨o, hf, ho12, hn12⟩ := itl_s hf
      have hf : b_X3_look_12 y2_12 y1_12 y3_12 g12 = some o := hf
      unfold b_X3_look_12 at hf
      refine lv_aload_n hx hb dX3_look_12 rfl (lv_at hl 0 rfl) ?_
      refine g_get hK hG B hinX3 0 rfl rfl 0 (by decide) m_7 rfl dX3_look_13 ?_
      refine lv_iload_n hx hb dX3_look_16 rfl (lv_at hl 2 rfl) ?_
      obtain ⟨vq_2, hf⟩ := chk_s hf
      refine g_iald hK hG B 1 rfl vq_2 dX3_look_17 ?_
      refine lv_iconst (v := 2) hx hb dX3_look_18 (by decide) ?_
      refine lv_icmp_ne (tgt := 64) hx hb dX3_look_19 (by decide) (fun cq_3 => ?_) (fun cq_3 => ?_)
      · have hf := ifF cq_3 hf
        have hres := ho12 _ (Option.some.inj hf).symm
        exact hKe12 _ _ _ (y1_12, g12) hres.symm hG (lv_sub hl [0, 1, 2] rfl)
      · have hf := ifT cq_3 hf
        refine lv_iload_n hx hb dX3_look_22 rfl (lv_at hl 3 rfl) ?_
        refine lv_aload_n hx hb dX3_look_23 rfl (lv_at hl 0 rfl) ?_
        refine g_get hK hG B hinX3 0 rfl rfl 1 (by decide) m_13 rfl dX3_look_24 ?_
        refine lv_iload_n hx hb dX3_look_27 rfl (lv_at hl 2 rfl) ?_
        obtain ⟨vq_4, hf⟩ := chk_s hf
        refine g_iald hK hG B 2 rfl vq_4 dX3_look_28 ?_
        refine lv_icmp_ge (tgt := 64) hx hb dX3_look_29 (by decide) (fun cq_5 => ?_) (fun cq_5 => ?_)
        · have hf := ifT cq_5 hf
          have hres := ho12 _ (Option.some.inj hf).symm
          exact hKe12 _ _ _ (y1_12, g12) hres.symm hG (lv_sub hl [0, 1, 2] rfl)
        · have hf := ifF cq_5 hf
          refine lv_aload_n hx hb dX3_look_32 rfl (lv_at hl 0 rfl) ?_
          refine g_get hK hG B hinX3 0 rfl rfl 2 (by decide) m_16 rfl dX3_look_33 ?_
          refine lv_bipush (v := 8) hx hb dX3_look_36 (by decide) ?_
          refine lv_iload_n hx hb dX3_look_38 rfl (lv_at hl 2 rfl) ?_
          refine lv_imul hx hb dX3_look_39 ?_
          refine lv_iload_n hx hb dX3_look_40 rfl (lv_at hl 3 rfl) ?_
          refine lv_iadd hx hb dX3_look_41 ?_
          obtain ⟨vq_6, hf⟩ := chk_s hf
          refine g_iald hK hG B 3 rfl vq_6 dX3_look_42 ?_
          refine lv_iload_n hx hb dX3_look_43 rfl (lv_at hl 1 rfl) ?_
          refine lv_icmp_eq (tgt := 55) hx hb dX3_look_44 (by decide) (fun cq_7 => ?_) (fun cq_7 => ?_)
          · have hf := ifT cq_7 hf
            refine lv_iinc (v := (y1_12 + (1 : Int32))) (lv' := [(1, .int (y1_12 + (1 : Int32))), (0, .ref h0), (2, .int y2_12), (3, .int y3_12)]) hx hb dX3_look_55 hl (k := 1) rfl rfl (by decide) rfl (fun ls hl => ?_)
            refine lv_iinc (v := (y3_12 + (1 : Int32))) (lv' := [(3, .int (y3_12 + (1 : Int32))), (1, .int (y1_12 + (1 : Int32))), (0, .ref h0), (2, .int y2_12)]) hx hb dX3_look_58 hl (k := 3) rfl rfl (by decide) rfl (fun ls hl => ?_)
            refine lv_goto (tgt := 12) hx hb dX3_look_61 (by decide) ?_
            have hn := hn12 _ (Option.some.inj hf).symm
            exact ih (y1_12 + (1 : Int32)) (y3_12 + (1 : Int32)) g12 _ _ _ hG (lv_sub hl [2, 1, 3, 0] rfl) hn
          · have hf := ifF cq_7 hf
            refine lv_aload_n hx hb dX3_look_47 rfl (lv_at hl 0 rfl) ?_
            refine lv_iload_n hx hb dX3_look_48 rfl (lv_at hl 2 rfl) ?_
            refine lv_iload_n hx hb dX3_look_49 rfl (lv_at hl 3 rfl) ?_
            refine lv_iload_n hx hb dX3_look_50 rfl (lv_at hl 1 rfl) ?_
            obtain ⟨zv_8, hqzv_8, hf⟩ := ob hf
            refine gc_Vi hA hK hl.1 hG B (c_X3_lookAt l D cI cJ h0 qk qs qp qw qr qo qn _ g12 y2_12 y3_12 y1_12 _ _ hqzv_8) (cwV 3 hts gX3_look_X3_lookAt rfl rfl rfl (by decide +kernel) ⟨by decide, by decide⟩) 0 rfl rfl rfl rfl rfl (Nat.le_of_ble_eq_true rfl) dX3_look_51 ⟨Nat.zero_le _, Nat.zero_le _⟩ (fun H locs hG => ?_)
            have hf := hKr12 _ (ho12 _ (Option.some.inj hf).symm).symm
            obtain ⟨e1, e2⟩ := Prod.mk.inj hf
            subst e2
            exact g_iret hr hlk hK hG B rfl e1 dX3_look_54
  have L4 : ∀ (res : (((Int32 × RS)) ⊕ (RS))) , (∀ v, res = .inl v → v = (r, g1)) → (∀ (H1 : Heap) (locs1 : List Loc) (ls1 : Array Slot) (e : RS), res = .inr e → gG D A s.heap (wR h0 qk qs qp qw qr qo qn cI cJ e) H1 locs1 → lv_has ls1 4 [] → W p l e0 { frames := 3, cells := 0, slots := 0, locals := 69 } s m ([.ref h0] : List Value).toArray below meth c H1 locs1 0 0 (MQ below (gQi D (gT cI cJ) A r (wR h0 qk qs qp qw qr qo qn cI cJ g1)) ([.ref h0] : List Value).toArray s 0 0 A) (F0 m 70 ls1 [])) → ∀ (n : Nat) (y1_4 : Int32) (y2_4 : Int32) (g4 : RS) (H : Heap) (locs : List Loc) (ls : Array Slot), gG D A s.heap (wR h0 qk qs qp qw qr qo qn cI cJ g4) H locs → lv_has ls 4 [(0, .ref h0), (1, .int y1_4), (2, .int y2_4)] → itl (fun a : Int32 × Int32 × RS => b_X3_look_4  a.1 a.2.1 a.2.2) n (y1_4, y2_4, g4) = some res → W p l e0 { frames := 3, cells := 0, slots := 0, locals := 69 } s m ([.ref h0] : List Value).toArray below meth c H locs 0 0 (MQ below (gQi D (gT cI cJ) A r (wR h0 qk qs qp qw qr qo qn cI cJ g1)) ([.ref h0] : List Value).toArray s 0 0 A) (F0 m 4 ls []) := by
    intro res  hKr4 hKe4 n
    induction n with
    | zero => exact fun y1_4 y2_4 g4 H locs ls hG hl hf => (itl_0 hf).elim
    | succ n ih =>
      intro y1_4 y2_4 g4 H locs ls hG hl hf
      obtain ⟨o, hf, ho4, hn4⟩ := itl_s hf
      have hf : b_X3_look_4  y1_4 y2_4 g4 = some o := hf
      unfold b_X3_look_4 at hf
      refine lv_iload_n hx hb dX3_look_4 rfl (lv_at hl 2 rfl) ?_
      refine lv_bipush (v := 12) hx hb dX3_look_5 (by decide) ?_
      refine lv_icmp_ge (tgt := 70) hx hb dX3_look_7 (by decide) (fun cq_1 => ?_) (fun cq_1 => ?_)
      · have hf := ifT cq_1 hf
        have hres := ho4 _ (Option.some.inj hf).symm
        exact hKe4 _ _ _ g4 hres.symm hG (lv_sub hl [] rfl)
      · have hf := ifF cq_1 hf
        refine lv_iconst (v := 0) hx hb dX3_look_10 (by decide) ?_
        refine lv_istore_n (lv' := [(3, .int (0 : Int32)), (0, .ref h0), (1, .int y1_4), (2, .int y2_4)]) hx hb dX3_look_11 rfl hl (by decide) rfl (fun ls hl => ?_)
        obtain ⟨zv_9, hizv_9, hf⟩ := ob hf
        refine L12 zv_9 y2_4 (fun v hres => by subst hres; have hf := se_l hf; exact hKr4 _ (ho4 _ (Option.some.inj hf).symm).symm) (fun H locs ls ev_9 hres hG hl => ?_) 300 y1_4 (0 : Int32) g4 _ _ _ hG (lv_sub hl [1, 2, 3, 0] rfl) hizv_9
        have hres := hres.symm
        subst hres
        have hf := se_r hf
        refine lv_iinc (v := (y2_4 + (1 : Int32))) (lv' := [(2, .int (y2_4 + (1 : Int32))), (0, .ref h0), (1, .int ev_9.1)]) hx hb dX3_look_64 hl (k := 2) rfl rfl (by decide) rfl (fun ls hl => ?_)
        refine lv_goto (tgt := 4) hx hb dX3_look_67 (by decide) ?_
        have hn := hn4 _ (Option.some.inj hf).symm
        exact ih ev_9.1 (y2_4 + (1 : Int32)) ev_9.2 _ _ _ hG (lv_sub hl [1, 2, 0] rfl) hn
  unfold f_X3_look at hf
  refine lv_iconst (v := 0) hx hb dX3_look_0 (by decide) ?_
  refine lv_istore_n (lv' := [(1, .int (0 : Int32)), (0, .ref h0)]) hx hb dX3_look_1 rfl hl (by decide) rfl (fun ls hl => ?_)
  refine lv_iconst (v := 0) hx hb dX3_look_2 (by decide) ?_
  refine lv_istore_n (lv' := [(2, .int (0 : Int32)), (1, .int (0 : Int32)), (0, .ref h0)]) hx hb dX3_look_3 rfl hl (by decide) rfl (fun ls hl => ?_)
  obtain ⟨zv_10, hizv_10, hf⟩ := ob hf
  refine L4 zv_10  (fun v hres => by subst hres; have hf := se_l hf; exact Option.some.inj hf) (fun H locs ls ev_10 hres hG hl => ?_) 300 (0 : Int32) (0 : Int32) g _ _ _ hG (lv_sub hl [2, 1, 0] rfl) hizv_10
  have hres := hres.symm
  subst hres
  have hf := se_r hf
  refine lv_iconst (v := 0) hx hb dX3_look_70 (by decide) ?_
  have hf := Option.some.inj hf
  obtain ⟨e1, e2⟩ := Prod.mk.inj hf
  subst e2
  exact g_iret hr hlk hK hG B rfl e1 dX3_look_71
def b_X3_move_105 (y2_105 : Int32) (y3_105 : Int32) (y4_105 : Int32) (y5_105 : Int32) (y6_105 : Int32) (g105 : RS) : Option ((RS) ⊕ (Int32 × RS)) := (if (3 : Int32) ≤ y6_105 then some (.inl g105) else (chk (((3 : Int32) * y5_105) + y6_105) 120 (((f_X3_setData y4_105 y6_105 (R_ws g105 (((3 : Int32) * y5_105) + y6_105).toNatClampNeg) g105).bind (fun zv_15 => some (.inr ((y6_105 + (1 : Int32)), zv_15)))))))
def f_X3_move (x1 : Int32) (g : RS) : Option RS := (if x1 = (0 : Int32) then ((f_X3_setRecord (1 : Int32) (R_pi g) g).bind (fun zv_24 => ((f_X3_setRecord (2 : Int32) (R_pp g) zv_24).bind (fun zv_25 => ((f_X3_setRecord (3 : Int32) (R_pt g) zv_25).bind (fun zv_26 => ((f_X3_setRecord (0 : Int32) (1 : Int32) zv_26).bind (fun zv_27 => (if (2 : Int32) ≤ x1 then ((f_X3_setPlace (R_pi g) (R_pp g) (R_pt g) zv_27).bind (fun zv_29 => ((f_X3_setRecord (0 : Int32) (0 : Int32) zv_29).bind (fun zv_30 => (if (R_down zv_30) = (0 : Int32) then some (sR_mv ((R_mv zv_30) + (1 : Int32)) zv_30) else some (sR_mv ((R_mv zv_30) + (0 : Int32)) zv_30)))))) else (chk (((8 : Int32) * (R_pi g)) + (R_pp g)) 96 (((itl (fun a : Int32 × RS => b_X3_move_105 (R_pi g) (R_pp g) (R_pt g) (R_pl zv_27 (((8 : Int32) * (R_pi g)) + (R_pp g)).toNatClampNeg) a.1 a.2) 300 ((0 : Int32), zv_27)).bind (fun ev_33 => ((f_X3_setRecord (0 : Int32) (2 : Int32) ev_33).bind (fun zv_34 => ((f_X3_setPlace (R_pi g) (R_pp g) (R_pt g) zv_34).bind (fun zv_35 => ((f_X3_setRecord (0 : Int32) (0 : Int32) zv_35).bind (fun zv_36 => (if (R_down zv_36) = (0 : Int32) then some (sR_mv ((R_mv zv_36) + (1 : Int32)) zv_36) else some (sR_mv ((R_mv zv_36) + (0 : Int32)) zv_36))))))))))))))))))))) else (chk (1 : Int32) 4 ((chk (2 : Int32) 4 ((chk (3 : Int32) 4 ((if (2 : Int32) ≤ x1 then ((f_X3_setPlace (R_rec g (1 : Int32).toNatClampNeg) (R_rec g (2 : Int32).toNatClampNeg) (R_rec g (3 : Int32).toNatClampNeg) g).bind (fun zv_9 => ((f_X3_setRecord (0 : Int32) (0 : Int32) zv_9).bind (fun zv_10 => (if (R_down zv_10) = (0 : Int32) then some (sR_mv ((R_mv zv_10) + (1 : Int32)) zv_10) else some (sR_mv ((R_mv zv_10) + (0 : Int32)) zv_10)))))) else (chk (((8 : Int32) * (R_rec g (1 : Int32).toNatClampNeg)) + (R_rec g (2 : Int32).toNatClampNeg)) 96 (((itl (fun a : Int32 × RS => b_X3_move_105 (R_rec g (1 : Int32).toNatClampNeg) (R_rec g (2 : Int32).toNatClampNeg) (R_rec g (3 : Int32).toNatClampNeg) (R_pl g (((8 : Int32) * (R_rec g (1 : Int32).toNatClampNeg)) + (R_rec g (2 : Int32).toNatClampNeg)).toNatClampNeg) a.1 a.2) 300 ((0 : Int32), g)).bind (fun ev_16 => ((f_X3_setRecord (0 : Int32) (2 : Int32) ev_16).bind (fun zv_17 => ((f_X3_setPlace (R_rec g (1 : Int32).toNatClampNeg) (R_rec g (2 : Int32).toNatClampNeg) (R_rec g (3 : Int32).toNatClampNeg) zv_17).bind (fun zv_18 => ((f_X3_setRecord (0 : Int32) (0 : Int32) zv_18).bind (fun zv_19 => (if (R_down zv_19) = (0 : Int32) then some (sR_mv ((R_mv zv_19) + (1 : Int32)) zv_19) else some (sR_mv ((R_mv zv_19) + (0 : Int32)) zv_19))))))))))))))))))))
set_option maxHeartbeats 4000000 in
set_option maxRecDepth 100000 in
theorem c_X3_move (l : Launch) (D : va_G) (cI cJ : ClassId) (h0 qk qs qp qw qr qo qn sz : Nat) (g : RS) (x1 : Int32) (g1 : RS) (hf : f_X3_move x1 g = some g1) : Met l yX3_move wsX3_move { frames := 2, cells := 0, slots := 0, locals := 44 } (gPc D (gT cI cJ) sz (wR h0 qk qs qp qw qr qo qn cI cJ g) [.ref h0, .int x1]) (gQv D (gT cI cJ) (va_A (wR h0 qk qs qp qw qr qo qn cI cJ g) sz) (wR h0 qk qs qp qw qr qo qn cI cJ g1)) 0 0 (va_A (wR h0 qk qs qp qw qr qo qn cI cJ g) sz) := by
  refine gMet (cc := cX3_move) (maxL := 7) (ret := none) (by decide) rfl ?_ (Nat.le_of_ble_eq_true rfl)
  intro p e0 s m below meth c ls B hr hlk hsz hK hG hl
  have hA : ∀ q : Nat, s.heap.size ≤ q → va_A (wR h0 qk qs qp qw qr qo qn cI cJ g) sz q := fun q h => Or.inr (hsz ▸ h)
  have hx := B.1
  have hb := B.2.1
  have hts := B.2.2.2.2
  have hl : lv_has ls 7 [(0, .ref h0), (1, .int x1)] := hl
  generalize va_A (wR h0 qk qs qp qw qr qo qn cI cJ g) sz = A at hA hG ⊢
  have hinX3 : ∀ x ∈ wsX30, x ∈ wsX3_move := by decide +kernel
  have m_16 : Cond.fieldLink RX3 16 "BlockMoverModel" "places" "[I" ∈ wsX3_move := by decide +kernel
  have m_19 : Cond.fieldLink RX3 19 "BlockMoverModel" "words" "[J" ∈ wsX3_move := by decide +kernel
  have m_23 : Cond.fieldLink RX3 23 "BlockMoverModel" "rec" "[I" ∈ wsX3_move := by decide +kernel
  have m_36 : Cond.fieldLink RX3 36 "BlockMoverModel" "down" "Z" ∈ wsX3_move := by decide +kernel
  have m_107 : Cond.fieldLink RX3 107 "BlockMoverModel" "planInode" "I" ∈ wsX3_move := by decide +kernel
  have m_110 : Cond.fieldLink RX3 110 "BlockMoverModel" "planPlace" "I" ∈ wsX3_move := by decide +kernel
  have m_113 : Cond.fieldLink RX3 113 "BlockMoverModel" "planTo" "I" ∈ wsX3_move := by decide +kernel
  have m_125 : Cond.fieldLink RX3 125 "BlockMoverModel" "moves" "I" ∈ wsX3_move := by decide +kernel
  have L105 : ∀ (res : (RS)) (y2_105 : Int32) (y3_105 : Int32) (y4_105 : Int32) (y5_105 : Int32), (∀ (H1 : Heap) (locs1 : List Loc) (ls1 : Array Slot) (e : RS), res = e → gG D A s.heap (wR h0 qk qs qp qw qr qo qn cI cJ e) H1 locs1 → lv_has ls1 7 [(0, .ref h0), (2, .int y2_105), (3, .int y3_105), (4, .int y4_105)] → W p l e0 { frames := 2, cells := 0, slots := 0, locals := 44 } s m ([.ref h0, .int x1] : List Value).toArray below meth c H1 locs1 0 0 (MQ below (gQv D (gT cI cJ) A (wR h0 qk qs qp qw qr qo qn cI cJ g1)) ([.ref h0, .int x1] : List Value).toArray s 0 0 A) (F0 m 137 ls1 [])) → ∀ (n : Nat) (y6_105 : Int32) (g105 : RS) (H : Heap) (locs : List Loc) (ls : Array Slot), gG D A s.heap (wR h0 qk qs qp qw qr qo qn cI cJ g105) H locs → lv_has ls 7 [(0, .ref h0), (2, .int y2_105), (3, .int y3_105), (4, .int y4_105), (5, .int y5_105), (6, .int y6_105)] → itl (fun a : Int32 × RS => b_X3_move_105 y2_105 y3_105 y4_105 y5_105 a.1 a.2) n (y6_105, g105) = some res → W p l e0 { frames := 2, cells := 0, slots := 0, locals := 44 } s m ([.ref h0, .int x1] : List Value).toArray below meth c H locs 0 0 (MQ below (gQv D (gT cI cJ) A (wR h0 qk qs qp qw qr qo qn cI cJ g1)) ([.ref h0, .int x1] : List Value).toArray s 0 0 A) (F0 m 105 ls []) := by
    intro res y2_105 y3_105 y4_105 y5_105 hKe105 n
    induction n with
    | zero => exact fun y6_105 g105 H locs ls hG hl hf => (itl_0 hf).elim
    | succ n ih =>
      intro y6_105 g105 H locs ls hG hl hf
      obtain ⟨o, hf, ho105, hn105⟩ := itl_s hf
      have hf : b_X3_move_105 y2_105 y3_105 y4_105 y5_105 y6_105 g105 = some o := hf
      unfold b_X3_move_105 at hf
      refine lv_iload hx hb dX3_move_105 (lv_at hl 5 rfl) ?_
      refine lv_iconst (v := 3) hx hb dX3_move_107 (by decide) ?_
      refine lv_icmp_ge (tgt := 137) hx hb dX3_move_108 (by decide) (fun cq_13 => ?_) (fun cq_13 => ?_)
      · have hf := ifT cq_13 hf
        have hres := ho105 _ (Option.some.inj hf).symm
        exact hKe105 _ _ _ g105 hres.symm hG (lv_sub hl [0, 1, 2, 3] rfl)
      · have hf := ifF cq_13 hf
        refine lv_aload_n hx hb dX3_move_111 rfl (lv_at hl 0 rfl) ?_
        refine lv_iload hx hb dX3_move_112 (lv_at hl 3 rfl) ?_
        refine lv_iload hx hb dX3_move_114 (lv_at hl 5 rfl) ?_
        refine lv_aload_n hx hb dX3_move_116 rfl (lv_at hl 0 rfl) ?_
        refine g_get hK hG B hinX3 0 rfl rfl 3 (by decide) m_19 rfl dX3_move_117 ?_
        refine lv_iconst (v := 3) hx hb dX3_move_120 (by decide) ?_
        refine lv_iload hx hb dX3_move_121 (lv_at hl 4 rfl) ?_
        refine lv_imul hx hb dX3_move_123 ?_
        refine lv_iload hx hb dX3_move_124 (lv_at hl 5 rfl) ?_
        refine lv_iadd hx hb dX3_move_126 ?_
        obtain ⟨vq_14, hf⟩ := chk_s hf
        refine g_lald hK hG B 4 rfl vq_14 dX3_move_127 ?_
        obtain ⟨zv_15, hqzv_15, hf⟩ := ob hf
        refine gc_Vv hA hK hl.1 hG B (c_X3_setData l D cI cJ h0 qk qs qp qw qr qo qn _ g105 y4_105 y6_105 (R_ws g105 (((3 : Int32) * y5_105) + y6_105).toNatClampNeg) _ hqzv_15) (cwV 3 hts gX3_move_X3_setData rfl rfl rfl (by decide +kernel) ⟨by decide, by decide⟩) 0 rfl rfl rfl rfl rfl (Nat.le_of_ble_eq_true rfl) dX3_move_128 ⟨Nat.zero_le _, Nat.zero_le _⟩ (fun H locs hG => ?_)
        refine lv_iinc (v := (y6_105 + (1 : Int32))) (lv' := [(6, .int (y6_105 + (1 : Int32))), (0, .ref h0), (2, .int y2_105), (3, .int y3_105), (4, .int y4_105), (5, .int y5_105)]) hx hb dX3_move_131 hl (k := 5) rfl rfl (by decide) rfl (fun ls hl => ?_)
        refine lv_goto (tgt := 105) hx hb dX3_move_134 (by decide) ?_
        have hn := hn105 _ (Option.some.inj hf).symm
        exact ih (y6_105 + (1 : Int32)) zv_15 _ _ _ hG (lv_sub hl [1, 2, 3, 4, 5, 0] rfl) hn
  unfold f_X3_move at hf
  refine lv_iload_n hx hb dX3_move_0 rfl (lv_at hl 1 rfl) ?_
  refine lv_if_ne (tgt := 11) hx hb dX3_move_1 (by decide) (fun cq_1 => ?_) (fun cq_1 => ?_)
  · have hf := ifF cq_1 hf
    refine lv_aload_n hx hb dX3_move_11 rfl (lv_at hl 0 rfl) ?_
    refine g_get hK hG B hinX3 0 rfl rfl 4 (by decide) m_23 rfl dX3_move_12 ?_
    refine lv_iconst (v := 1) hx hb dX3_move_15 (by decide) ?_
    obtain ⟨vq_2, hf⟩ := chk_s hf
    refine g_iald hK hG B 5 rfl vq_2 dX3_move_16 ?_
    refine lv_istore_n (lv' := [(2, .int (R_rec g (1 : Int32).toNatClampNeg)), (0, .ref h0), (1, .int x1)]) hx hb dX3_move_17 rfl hl (by decide) rfl (fun ls hl => ?_)
    refine lv_iload_n hx hb dX3_move_18 rfl (lv_at hl 2 rfl) ?_
    refine lv_if_ne (tgt := 29) hx hb dX3_move_19 (by decide) (fun cq_3 => ?_) (fun cq_3 => ?_)
    rotate_left
    · exact absurd cq_3 cq_1
    refine lv_aload_n hx hb dX3_move_29 rfl (lv_at hl 1 rfl) ?_
    refine g_get hK hG B hinX3 0 rfl rfl 4 (by decide) m_23 rfl dX3_move_30 ?_
    refine lv_iconst (v := 2) hx hb dX3_move_33 (by decide) ?_
    obtain ⟨vq_4, hf⟩ := chk_s hf
    refine g_iald hK hG B 5 rfl vq_4 dX3_move_34 ?_
    refine lv_istore_n (lv' := [(3, .int (R_rec g (2 : Int32).toNatClampNeg)), (2, .int (R_rec g (1 : Int32).toNatClampNeg)), (0, .ref h0), (1, .int x1)]) hx hb dX3_move_35 rfl hl (by decide) rfl (fun ls hl => ?_)
    refine lv_iload_n hx hb dX3_move_36 rfl (lv_at hl 3 rfl) ?_
    refine lv_if_ne (tgt := 47) hx hb dX3_move_37 (by decide) (fun cq_5 => ?_) (fun cq_5 => ?_)
    rotate_left
    · exact absurd cq_5 cq_1
    refine lv_aload_n hx hb dX3_move_47 rfl (lv_at hl 2 rfl) ?_
    refine g_get hK hG B hinX3 0 rfl rfl 4 (by decide) m_23 rfl dX3_move_48 ?_
    refine lv_iconst (v := 3) hx hb dX3_move_51 (by decide) ?_
    obtain ⟨vq_6, hf⟩ := chk_s hf
    refine g_iald hK hG B 5 rfl vq_6 dX3_move_52 ?_
    refine lv_istore (lv' := [(4, .int (R_rec g (3 : Int32).toNatClampNeg)), (3, .int (R_rec g (2 : Int32).toNatClampNeg)), (2, .int (R_rec g (1 : Int32).toNatClampNeg)), (0, .ref h0), (1, .int x1)]) hx hb dX3_move_53 hl (by decide) rfl (fun ls hl => ?_)
    refine lv_iload_n hx hb dX3_move_55 rfl (lv_at hl 4 rfl) ?_
    refine lv_if_ne (tgt := 84) hx hb dX3_move_56 (by decide) (fun cq_7 => ?_) (fun cq_7 => ?_)
    rotate_left
    · exact absurd cq_7 cq_1
    refine lv_iload_n hx hb dX3_move_84 rfl (lv_at hl 4 rfl) ?_
    refine lv_iconst (v := 2) hx hb dX3_move_85 (by decide) ?_
    refine lv_icmp_ge (tgt := 143) hx hb dX3_move_86 (by decide) (fun cq_8 => ?_) (fun cq_8 => ?_)
    · have hf := ifT cq_8 hf
      refine lv_aload_n hx hb dX3_move_143 rfl (lv_at hl 3 rfl) ?_
      refine lv_iload_n hx hb dX3_move_144 rfl (lv_at hl 2 rfl) ?_
      refine lv_iload_n hx hb dX3_move_145 rfl (lv_at hl 1 rfl) ?_
      refine lv_iload hx hb dX3_move_146 (lv_at hl 0 rfl) ?_
      obtain ⟨zv_9, hqzv_9, hf⟩ := ob hf
      refine gc_Vv hA hK hl.1 hG B (c_X3_setPlace l D cI cJ h0 qk qs qp qw qr qo qn _ g (R_rec g (1 : Int32).toNatClampNeg) (R_rec g (2 : Int32).toNatClampNeg) (R_rec g (3 : Int32).toNatClampNeg) _ hqzv_9) (cwV 3 hts gX3_move_X3_setPlace rfl rfl rfl (by decide +kernel) ⟨by decide, by decide⟩) 0 rfl rfl rfl rfl rfl (Nat.le_of_ble_eq_true rfl) dX3_move_148 ⟨Nat.zero_le _, Nat.zero_le _⟩ (fun H locs hG => ?_)
      refine lv_aload_n hx hb dX3_move_151 rfl (lv_at hl 3 rfl) ?_
      refine lv_iconst (v := 0) hx hb dX3_move_152 (by decide) ?_
      refine lv_iconst (v := 0) hx hb dX3_move_153 (by decide) ?_
      obtain ⟨zv_10, hqzv_10, hf⟩ := ob hf
      refine gc_Vv hA hK hl.1 hG B (c_X3_setRecord l D cI cJ h0 qk qs qp qw qr qo qn _ zv_9 (0 : Int32) (0 : Int32) _ hqzv_10) (cwV 2 hts gX3_move_X3_setRecord rfl rfl rfl (by decide +kernel) ⟨by decide, by decide⟩) 0 rfl rfl rfl rfl rfl (Nat.le_of_ble_eq_true rfl) dX3_move_154 ⟨Nat.zero_le _, Nat.zero_le _⟩ (fun H locs hG => ?_)
      refine lv_aload_n hx hb dX3_move_157 rfl (lv_at hl 3 rfl) ?_
      refine lv_dup hx hb dX3_move_158 rfl ?_
      refine g_get hK hG B hinX3 0 rfl rfl 8 (by decide) m_125 rfl dX3_move_159 ?_
      refine lv_aload_n hx hb dX3_move_162 rfl (lv_at hl 3 rfl) ?_
      refine g_get hK hG B hinX3 0 rfl rfl 5 (by decide) m_36 rfl dX3_move_163 ?_
      refine lv_if_eq (tgt := 173) hx hb dX3_move_166 (by decide) (fun cq_11 => ?_) (fun cq_11 => ?_)
      · have hf := ifT cq_11 hf
        refine lv_iconst (v := 1) hx hb dX3_move_173 (by decide) ?_
        refine lv_iadd hx hb dX3_move_174 ?_
        refine gp_R_mv hK hG B hinX3 m_125 dX3_move_175 (fun H locs hG => ?_)
        have hf := Option.some.inj hf
        subst hf
        exact g_vret hr hlk hK hG B dX3_move_178
      · have hf := ifF cq_11 hf
        refine lv_iconst (v := 0) hx hb dX3_move_169 (by decide) ?_
        refine lv_goto (tgt := 174) hx hb dX3_move_170 (by decide) ?_
        refine lv_iadd hx hb dX3_move_174 ?_
        refine gp_R_mv hK hG B hinX3 m_125 dX3_move_175 (fun H locs hG => ?_)
        have hf := Option.some.inj hf
        subst hf
        exact g_vret hr hlk hK hG B dX3_move_178
    · have hf := ifF cq_8 hf
      refine lv_aload_n hx hb dX3_move_89 rfl (lv_at hl 3 rfl) ?_
      refine g_get hK hG B hinX3 0 rfl rfl 2 (by decide) m_16 rfl dX3_move_90 ?_
      refine lv_bipush (v := 8) hx hb dX3_move_93 (by decide) ?_
      refine lv_iload_n hx hb dX3_move_95 rfl (lv_at hl 2 rfl) ?_
      refine lv_imul hx hb dX3_move_96 ?_
      refine lv_iload_n hx hb dX3_move_97 rfl (lv_at hl 1 rfl) ?_
      refine lv_iadd hx hb dX3_move_98 ?_
      obtain ⟨vq_12, hf⟩ := chk_s hf
      refine g_iald hK hG B 3 rfl vq_12 dX3_move_99 ?_
      refine lv_istore (lv' := [(5, .int (R_pl g (((8 : Int32) * (R_rec g (1 : Int32).toNatClampNeg)) + (R_rec g (2 : Int32).toNatClampNeg)).toNatClampNeg)), (4, .int (R_rec g (3 : Int32).toNatClampNeg)), (3, .int (R_rec g (2 : Int32).toNatClampNeg)), (2, .int (R_rec g (1 : Int32).toNatClampNeg)), (0, .ref h0), (1, .int x1)]) hx hb dX3_move_100 hl (by decide) rfl (fun ls hl => ?_)
      refine lv_iconst (v := 0) hx hb dX3_move_102 (by decide) ?_
      refine lv_istore (lv' := [(6, .int (0 : Int32)), (5, .int (R_pl g (((8 : Int32) * (R_rec g (1 : Int32).toNatClampNeg)) + (R_rec g (2 : Int32).toNatClampNeg)).toNatClampNeg)), (4, .int (R_rec g (3 : Int32).toNatClampNeg)), (3, .int (R_rec g (2 : Int32).toNatClampNeg)), (2, .int (R_rec g (1 : Int32).toNatClampNeg)), (0, .ref h0), (1, .int x1)]) hx hb dX3_move_103 hl (by decide) rfl (fun ls hl => ?_)
      obtain ⟨zv_16, hizv_16, hf⟩ := ob hf
      refine L105 zv_16 (R_rec g (1 : Int32).toNatClampNeg) (R_rec g (2 : Int32).toNatClampNeg) (R_rec g (3 : Int32).toNatClampNeg) (R_pl g (((8 : Int32) * (R_rec g (1 : Int32).toNatClampNeg)) + (R_rec g (2 : Int32).toNatClampNeg)).toNatClampNeg) (fun H locs ls ev_16 hres hG hl => ?_) 300 (0 : Int32) g _ _ _ hG (lv_sub hl [5, 4, 3, 2, 1, 0] rfl) hizv_16
      have hres := hres.symm
      subst hres
      refine lv_aload_n hx hb dX3_move_137 rfl (lv_at hl 0 rfl) ?_
      refine lv_iconst (v := 0) hx hb dX3_move_138 (by decide) ?_
      refine lv_iconst (v := 2) hx hb dX3_move_139 (by decide) ?_
      obtain ⟨zv_17, hqzv_17, hf⟩ := ob hf
      refine gc_Vv hA hK hl.1 hG B (c_X3_setRecord l D cI cJ h0 qk qs qp qw qr qo qn _ ev_16 (0 : Int32) (2 : Int32) _ hqzv_17) (cwV 2 hts gX3_move_X3_setRecord rfl rfl rfl (by decide +kernel) ⟨by decide, by decide⟩) 0 rfl rfl rfl rfl rfl (Nat.le_of_ble_eq_true rfl) dX3_move_140 ⟨Nat.zero_le _, Nat.zero_le _⟩ (fun H locs hG => ?_)
      refine lv_aload_n hx hb dX3_move_143 rfl (lv_at hl 0 rfl) ?_
      refine lv_iload_n hx hb dX3_move_144 rfl (lv_at hl 1 rfl) ?_
      refine lv_iload_n hx hb dX3_move_145 rfl (lv_at hl 2 rfl) ?_
      refine lv_iload hx hb dX3_move_146 (lv_at hl 3 rfl) ?_
      obtain ⟨zv_18, hqzv_18, hf⟩ := ob hf
      refine gc_Vv hA hK hl.1 hG B (c_X3_setPlace l D cI cJ h0 qk qs qp qw qr qo qn _ zv_17 (R_rec g (1 : Int32).toNatClampNeg) (R_rec g (2 : Int32).toNatClampNeg) (R_rec g (3 : Int32).toNatClampNeg) _ hqzv_18) (cwV 3 hts gX3_move_X3_setPlace rfl rfl rfl (by decide +kernel) ⟨by decide, by decide⟩) 0 rfl rfl rfl rfl rfl (Nat.le_of_ble_eq_true rfl) dX3_move_148 ⟨Nat.zero_le _, Nat.zero_le _⟩ (fun H locs hG => ?_)
      refine lv_aload_n hx hb dX3_move_151 rfl (lv_at hl 0 rfl) ?_
      refine lv_iconst (v := 0) hx hb dX3_move_152 (by decide) ?_
      refine lv_iconst (v := 0) hx hb dX3_move_153 (by decide) ?_
      obtain ⟨zv_19, hqzv_19, hf⟩ := ob hf
      refine gc_Vv hA hK hl.1 hG B (c_X3_setRecord l D cI cJ h0 qk qs qp qw qr qo qn _ zv_18 (0 : Int32) (0 : Int32) _ hqzv_19) (cwV 2 hts gX3_move_X3_setRecord rfl rfl rfl (by decide +kernel) ⟨by decide, by decide⟩) 0 rfl rfl rfl rfl rfl (Nat.le_of_ble_eq_true rfl) dX3_move_154 ⟨Nat.zero_le _, Nat.zero_le _⟩ (fun H locs hG => ?_)
      refine lv_aload_n hx hb dX3_move_157 rfl (lv_at hl 0 rfl) ?_
      refine lv_dup hx hb dX3_move_158 rfl ?_
      refine g_get hK hG B hinX3 0 rfl rfl 8 (by decide) m_125 rfl dX3_move_159 ?_
      refine lv_aload_n hx hb dX3_move_162 rfl (lv_at hl 0 rfl) ?_
      refine g_get hK hG B hinX3 0 rfl rfl 5 (by decide) m_36 rfl dX3_move_163 ?_
      refine lv_if_eq (tgt := 173) hx hb dX3_move_166 (by decide) (fun cq_20 => ?_) (fun cq_20 => ?_)
      · have hf := ifT cq_20 hf
        refine lv_iconst (v := 1) hx hb dX3_move_173 (by decide) ?_
        refine lv_iadd hx hb dX3_move_174 ?_
        refine gp_R_mv hK hG B hinX3 m_125 dX3_move_175 (fun H locs hG => ?_)
        have hf := Option.some.inj hf
        subst hf
        exact g_vret hr hlk hK hG B dX3_move_178
      · have hf := ifF cq_20 hf
        refine lv_iconst (v := 0) hx hb dX3_move_169 (by decide) ?_
        refine lv_goto (tgt := 174) hx hb dX3_move_170 (by decide) ?_
        refine lv_iadd hx hb dX3_move_174 ?_
        refine gp_R_mv hK hG B hinX3 m_125 dX3_move_175 (fun H locs hG => ?_)
        have hf := Option.some.inj hf
        subst hf
        exact g_vret hr hlk hK hG B dX3_move_178
  · have hf := ifT cq_1 hf
    refine lv_aload_n hx hb dX3_move_4 rfl (lv_at hl 0 rfl) ?_
    refine g_get hK hG B hinX3 0 rfl rfl 11 (by decide) m_107 rfl dX3_move_5 ?_
    refine lv_goto (tgt := 17) hx hb dX3_move_8 (by decide) ?_
    refine lv_istore_n (lv' := [(2, .int (R_pi g)), (0, .ref h0), (1, .int x1)]) hx hb dX3_move_17 rfl hl (by decide) rfl (fun ls hl => ?_)
    refine lv_iload_n hx hb dX3_move_18 rfl (lv_at hl 2 rfl) ?_
    refine lv_if_ne (tgt := 29) hx hb dX3_move_19 (by decide) (fun cq_21 => ?_) (fun cq_21 => ?_)
    · exact absurd cq_1 cq_21
    refine lv_aload_n hx hb dX3_move_22 rfl (lv_at hl 1 rfl) ?_
    refine g_get hK hG B hinX3 0 rfl rfl 12 (by decide) m_110 rfl dX3_move_23 ?_
    refine lv_goto (tgt := 35) hx hb dX3_move_26 (by decide) ?_
    refine lv_istore_n (lv' := [(3, .int (R_pp g)), (2, .int (R_pi g)), (0, .ref h0), (1, .int x1)]) hx hb dX3_move_35 rfl hl (by decide) rfl (fun ls hl => ?_)
    refine lv_iload_n hx hb dX3_move_36 rfl (lv_at hl 3 rfl) ?_
    refine lv_if_ne (tgt := 47) hx hb dX3_move_37 (by decide) (fun cq_22 => ?_) (fun cq_22 => ?_)
    · exact absurd cq_1 cq_22
    refine lv_aload_n hx hb dX3_move_40 rfl (lv_at hl 2 rfl) ?_
    refine g_get hK hG B hinX3 0 rfl rfl 10 (by decide) m_113 rfl dX3_move_41 ?_
    refine lv_goto (tgt := 53) hx hb dX3_move_44 (by decide) ?_
    refine lv_istore (lv' := [(4, .int (R_pt g)), (3, .int (R_pp g)), (2, .int (R_pi g)), (0, .ref h0), (1, .int x1)]) hx hb dX3_move_53 hl (by decide) rfl (fun ls hl => ?_)
    refine lv_iload_n hx hb dX3_move_55 rfl (lv_at hl 4 rfl) ?_
    refine lv_if_ne (tgt := 84) hx hb dX3_move_56 (by decide) (fun cq_23 => ?_) (fun cq_23 => ?_)
    · exact absurd cq_1 cq_23
    refine lv_aload_n hx hb dX3_move_59 rfl (lv_at hl 3 rfl) ?_
    refine lv_iconst (v := 1) hx hb dX3_move_60 (by decide) ?_
    refine lv_iload_n hx hb dX3_move_61 rfl (lv_at hl 2 rfl) ?_
    obtain ⟨zv_24, hqzv_24, hf⟩ := ob hf
    refine gc_Vv hA hK hl.1 hG B (c_X3_setRecord l D cI cJ h0 qk qs qp qw qr qo qn _ g (1 : Int32) (R_pi g) _ hqzv_24) (cwV 2 hts gX3_move_X3_setRecord rfl rfl rfl (by decide +kernel) ⟨by decide, by decide⟩) 0 rfl rfl rfl rfl rfl (Nat.le_of_ble_eq_true rfl) dX3_move_62 ⟨Nat.zero_le _, Nat.zero_le _⟩ (fun H locs hG => ?_)
    refine lv_aload_n hx hb dX3_move_65 rfl (lv_at hl 3 rfl) ?_
    refine lv_iconst (v := 2) hx hb dX3_move_66 (by decide) ?_
    refine lv_iload_n hx hb dX3_move_67 rfl (lv_at hl 1 rfl) ?_
    obtain ⟨zv_25, hqzv_25, hf⟩ := ob hf
    refine gc_Vv hA hK hl.1 hG B (c_X3_setRecord l D cI cJ h0 qk qs qp qw qr qo qn _ zv_24 (2 : Int32) (R_pp g) _ hqzv_25) (cwV 2 hts gX3_move_X3_setRecord rfl rfl rfl (by decide +kernel) ⟨by decide, by decide⟩) 0 rfl rfl rfl rfl rfl (Nat.le_of_ble_eq_true rfl) dX3_move_68 ⟨Nat.zero_le _, Nat.zero_le _⟩ (fun H locs hG => ?_)
    refine lv_aload_n hx hb dX3_move_71 rfl (lv_at hl 3 rfl) ?_
    refine lv_iconst (v := 3) hx hb dX3_move_72 (by decide) ?_
    refine lv_iload hx hb dX3_move_73 (lv_at hl 0 rfl) ?_
    obtain ⟨zv_26, hqzv_26, hf⟩ := ob hf
    refine gc_Vv hA hK hl.1 hG B (c_X3_setRecord l D cI cJ h0 qk qs qp qw qr qo qn _ zv_25 (3 : Int32) (R_pt g) _ hqzv_26) (cwV 2 hts gX3_move_X3_setRecord rfl rfl rfl (by decide +kernel) ⟨by decide, by decide⟩) 0 rfl rfl rfl rfl rfl (Nat.le_of_ble_eq_true rfl) dX3_move_75 ⟨Nat.zero_le _, Nat.zero_le _⟩ (fun H locs hG => ?_)
    refine lv_aload_n hx hb dX3_move_78 rfl (lv_at hl 3 rfl) ?_
    refine lv_iconst (v := 0) hx hb dX3_move_79 (by decide) ?_
    refine lv_iconst (v := 1) hx hb dX3_move_80 (by decide) ?_
    obtain ⟨zv_27, hqzv_27, hf⟩ := ob hf
    refine gc_Vv hA hK hl.1 hG B (c_X3_setRecord l D cI cJ h0 qk qs qp qw qr qo qn _ zv_26 (0 : Int32) (1 : Int32) _ hqzv_27) (cwV 2 hts gX3_move_X3_setRecord rfl rfl rfl (by decide +kernel) ⟨by decide, by decide⟩) 0 rfl rfl rfl rfl rfl (Nat.le_of_ble_eq_true rfl) dX3_move_81 ⟨Nat.zero_le _, Nat.zero_le _⟩ (fun H locs hG => ?_)
    refine lv_iload_n hx hb dX3_move_84 rfl (lv_at hl 4 rfl) ?_
    refine lv_iconst (v := 2) hx hb dX3_move_85 (by decide) ?_
    refine lv_icmp_ge (tgt := 143) hx hb dX3_move_86 (by decide) (fun cq_28 => ?_) (fun cq_28 => ?_)
    · have hf := ifT cq_28 hf
      refine lv_aload_n hx hb dX3_move_143 rfl (lv_at hl 3 rfl) ?_
      refine lv_iload_n hx hb dX3_move_144 rfl (lv_at hl 2 rfl) ?_
      refine lv_iload_n hx hb dX3_move_145 rfl (lv_at hl 1 rfl) ?_
      refine lv_iload hx hb dX3_move_146 (lv_at hl 0 rfl) ?_
      obtain ⟨zv_29, hqzv_29, hf⟩ := ob hf
      refine gc_Vv hA hK hl.1 hG B (c_X3_setPlace l D cI cJ h0 qk qs qp qw qr qo qn _ zv_27 (R_pi g) (R_pp g) (R_pt g) _ hqzv_29) (cwV 3 hts gX3_move_X3_setPlace rfl rfl rfl (by decide +kernel) ⟨by decide, by decide⟩) 0 rfl rfl rfl rfl rfl (Nat.le_of_ble_eq_true rfl) dX3_move_148 ⟨Nat.zero_le _, Nat.zero_le _⟩ (fun H locs hG => ?_)
      refine lv_aload_n hx hb dX3_move_151 rfl (lv_at hl 3 rfl) ?_
      refine lv_iconst (v := 0) hx hb dX3_move_152 (by decide) ?_
      refine lv_iconst (v := 0) hx hb dX3_move_153 (by decide) ?_
      obtain ⟨zv_30, hqzv_30, hf⟩ := ob hf
      refine gc_Vv hA hK hl.1 hG B (c_X3_setRecord l D cI cJ h0 qk qs qp qw qr qo qn _ zv_29 (0 : Int32) (0 : Int32) _ hqzv_30) (cwV 2 hts gX3_move_X3_setRecord rfl rfl rfl (by decide +kernel) ⟨by decide, by decide⟩) 0 rfl rfl rfl rfl rfl (Nat.le_of_ble_eq_true rfl) dX3_move_154 ⟨Nat.zero_le _, Nat.zero_le _⟩ (fun H locs hG => ?_)
      refine lv_aload_n hx hb dX3_move_157 rfl (lv_at hl 3 rfl) ?_
      refine lv_dup hx hb dX3_move_158 rfl ?_
      refine g_get hK hG B hinX3 0 rfl rfl 8 (by decide) m_125 rfl dX3_move_159 ?_
      refine lv_aload_n hx hb dX3_move_162 rfl (lv_at hl 3 rfl) ?_
      refine g_get hK hG B hinX3 0 rfl rfl 5 (by decide) m_36 rfl dX3_move_163 ?_
      refine lv_if_eq (tgt := 173) hx hb dX3_move_166 (by decide) (fun cq_31 => ?_) (fun cq_31 => ?_)
      · have hf := ifT cq_31 hf
        refine lv_iconst (v := 1) hx hb dX3_move_173 (by decide) ?_
        refine lv_iadd hx hb dX3_move_174 ?_
        refine gp_R_mv hK hG B hinX3 m_125 dX3_move_175 (fun H locs hG => ?_)
        have hf := Option.some.inj hf
        subst hf
        exact g_vret hr hlk hK hG B dX3_move_178
      · have hf := ifF cq_31 hf
        refine lv_iconst (v := 0) hx hb dX3_move_169 (by decide) ?_
        refine lv_goto (tgt := 174) hx hb dX3_move_170 (by decide) ?_
        refine lv_iadd hx hb dX3_move_174 ?_
        refine gp_R_mv hK hG B hinX3 m_125 dX3_move_175 (fun H locs hG => ?_)
        have hf := Option.some.inj hf
        subst hf
        exact g_vret hr hlk hK hG B dX3_move_178
    · have hf := ifF cq_28 hf
      refine lv_aload_n hx hb dX3_move_89 rfl (lv_at hl 3 rfl) ?_
      refine g_get hK hG B hinX3 0 rfl rfl 2 (by decide) m_16 rfl dX3_move_90 ?_
      refine lv_bipush (v := 8) hx hb dX3_move_93 (by decide) ?_
      refine lv_iload_n hx hb dX3_move_95 rfl (lv_at hl 2 rfl) ?_
      refine lv_imul hx hb dX3_move_96 ?_
      refine lv_iload_n hx hb dX3_move_97 rfl (lv_at hl 1 rfl) ?_
      refine lv_iadd hx hb dX3_move_98 ?_
      obtain ⟨vq_32, hf⟩ := chk_s hf
      refine g_iald hK hG B 3 rfl vq_32 dX3_move_99 ?_
      refine lv_istore (lv' := [(5, .int (R_pl zv_27 (((8 : Int32) * (R_pi g)) + (R_pp g)).toNatClampNeg)), (4, .int (R_pt g)), (3, .int (R_pp g)), (2, .int (R_pi g)), (0, .ref h0), (1, .int x1)]) hx hb dX3_move_100 hl (by decide) rfl (fun ls hl => ?_)
      refine lv_iconst (v := 0) hx hb dX3_move_102 (by decide) ?_
      refine lv_istore (lv' := [(6, .int (0 : Int32)), (5, .int (R_pl zv_27 (((8 : Int32) * (R_pi g)) + (R_pp g)).toNatClampNeg)), (4, .int (R_pt g)), (3, .int (R_pp g)), (2, .int (R_pi g)), (0, .ref h0), (1, .int x1)]) hx hb dX3_move_103 hl (by decide) rfl (fun ls hl => ?_)
      obtain ⟨zv_33, hizv_33, hf⟩ := ob hf
      refine L105 zv_33 (R_pi g) (R_pp g) (R_pt g) (R_pl zv_27 (((8 : Int32) * (R_pi g)) + (R_pp g)).toNatClampNeg) (fun H locs ls ev_33 hres hG hl => ?_) 300 (0 : Int32) zv_27 _ _ _ hG (lv_sub hl [5, 4, 3, 2, 1, 0] rfl) hizv_33
      have hres := hres.symm
      subst hres
      refine lv_aload_n hx hb dX3_move_137 rfl (lv_at hl 0 rfl) ?_
      refine lv_iconst (v := 0) hx hb dX3_move_138 (by decide) ?_
      refine lv_iconst (v := 2) hx hb dX3_move_139 (by decide) ?_
      obtain ⟨zv_34, hqzv_34, hf⟩ := ob hf
      refine gc_Vv hA hK hl.1 hG B (c_X3_setRecord l D cI cJ h0 qk qs qp qw qr qo qn _ ev_33 (0 : Int32) (2 : Int32) _ hqzv_34) (cwV 2 hts gX3_move_X3_setRecord rfl rfl rfl (by decide +kernel) ⟨by decide, by decide⟩) 0 rfl rfl rfl rfl rfl (Nat.le_of_ble_eq_true rfl) dX3_move_140 ⟨Nat.zero_le _, Nat.zero_le _⟩ (fun H locs hG => ?_)
      refine lv_aload_n hx hb dX3_move_143 rfl (lv_at hl 0 rfl) ?_
      refine lv_iload_n hx hb dX3_move_144 rfl (lv_at hl 1 rfl) ?_
      refine lv_iload_n hx hb dX3_move_145 rfl (lv_at hl 2 rfl) ?_
      refine lv_iload hx hb dX3_move_146 (lv_at hl 3 rfl) ?_
      obtain ⟨zv_35, hqzv_35, hf⟩ := ob hf
      refine gc_Vv hA hK hl.1 hG B (c_X3_setPlace l D cI cJ h0 qk qs qp qw qr qo qn _ zv_34 (R_pi g) (R_pp g) (R_pt g) _ hqzv_35) (cwV 3 hts gX3_move_X3_setPlace rfl rfl rfl (by decide +kernel) ⟨by decide, by decide⟩) 0 rfl rfl rfl rfl rfl (Nat.le_of_ble_eq_true rfl) dX3_move_148 ⟨Nat.zero_le _, Nat.zero_le _⟩ (fun H locs hG => ?_)
      refine lv_aload_n hx hb dX3_move_151 rfl (lv_at hl 0 rfl) ?_
      refine lv_iconst (v := 0) hx hb dX3_move_152 (by decide) ?_
      refine lv_iconst (v := 0) hx hb dX3_move_153 (by decide) ?_
      obtain ⟨zv_36, hqzv_36, hf⟩ := ob hf
      refine gc_Vv hA hK hl.1 hG B (c_X3_setRecord l D cI cJ h0 qk qs qp qw qr qo qn _ zv_35 (0 : Int32) (0 : Int32) _ hqzv_36) (cwV 2 hts gX3_move_X3_setRecord rfl rfl rfl (by decide +kernel) ⟨by decide, by decide⟩) 0 rfl rfl rfl rfl rfl (Nat.le_of_ble_eq_true rfl) dX3_move_154 ⟨Nat.zero_le _, Nat.zero_le _⟩ (fun H locs hG => ?_)
      refine lv_aload_n hx hb dX3_move_157 rfl (lv_at hl 0 rfl) ?_
      refine lv_dup hx hb dX3_move_158 rfl ?_
      refine g_get hK hG B hinX3 0 rfl rfl 8 (by decide) m_125 rfl dX3_move_159 ?_
      refine lv_aload_n hx hb dX3_move_162 rfl (lv_at hl 0 rfl) ?_
      refine g_get hK hG B hinX3 0 rfl rfl 5 (by decide) m_36 rfl dX3_move_163 ?_
      refine lv_if_eq (tgt := 173) hx hb dX3_move_166 (by decide) (fun cq_37 => ?_) (fun cq_37 => ?_)
      · have hf := ifT cq_37 hf
        refine lv_iconst (v := 1) hx hb dX3_move_173 (by decide) ?_
        refine lv_iadd hx hb dX3_move_174 ?_
        refine gp_R_mv hK hG B hinX3 m_125 dX3_move_175 (fun H locs hG => ?_)
        have hf := Option.some.inj hf
        subst hf
        exact g_vret hr hlk hK hG B dX3_move_178
      · have hf := ifF cq_37 hf
        refine lv_iconst (v := 0) hx hb dX3_move_169 (by decide) ?_
        refine lv_goto (tgt := 174) hx hb dX3_move_170 (by decide) ?_
        refine lv_iadd hx hb dX3_move_174 ?_
        refine gp_R_mv hK hG B hinX3 m_125 dX3_move_175 (fun H locs hG => ?_)
        have hf := Option.some.inj hf
        subst hf
        exact g_vret hr hlk hK hG B dX3_move_178
