def f_X3_rename (x1 : Int32) (x2 : Int32) (x3 : Int32) (x4 : Int32) (g : RS) : Option (Int32 × RS) := ((f_X3_isInode x1 (1 : Int32) g).bind (fun zv_1 => (if zv_1 = (0 : Int32) then some ((-1 : Int32), g) else (if (f_X3_isName x2) = (0 : Int32) then some ((-1 : Int32), g) else ((f_X3_isInode x3 (1 : Int32) g).bind (fun zv_4 => (if zv_4 = (0 : Int32) then some ((-1 : Int32), g) else (if (f_X3_isName x4) = (0 : Int32) then some ((-1 : Int32), g) else (if (R_down g) = (0 : Int32) then ((f_X3_entry x1 x2 g).bind (fun zv_8 => (if (0 : Int32) ≤ zv_8 then ((f_X3_entry x3 x4 g).bind (fun zv_10 => (if zv_10 < (0 : Int32) then ((f_X3_noEntry x3 g).bind (fun zv_12 => (if (0 : Int32) ≤ zv_12 then (chk (((8 : Int32) * x1) + zv_8) 96 ((chk ((R_pl g (((8 : Int32) * x1) + zv_8).toNatClampNeg) / (100 : Int32)) 12 ((if (R_kind g ((R_pl g (((8 : Int32) * x1) + zv_8).toNatClampNeg) / (100 : Int32)).toNatClampNeg) = (1 : Int32) then ((f_X3_isWithin x3 ((R_pl g (((8 : Int32) * x1) + zv_8).toNatClampNeg) / (100 : Int32)) g).bind (fun zv_20 => (if zv_20 = (0 : Int32) then ((f_X3_setPlace x3 zv_12 (((100 : Int32) * ((R_pl g (((8 : Int32) * x1) + zv_8).toNatClampNeg) / (100 : Int32))) + x4) g).bind (fun zv_22 => ((f_X3_setPlace x1 zv_8 (0 : Int32) zv_22).bind (fun zv_23 => (if (R_down zv_23) = (0 : Int32) then some (((R_pl g (((8 : Int32) * x1) + zv_8).toNatClampNeg) / (100 : Int32)), zv_23) else some ((-2 : Int32), zv_23)))))) else some ((-6 : Int32), g)))) else ((f_X3_setPlace x3 zv_12 (((100 : Int32) * ((R_pl g (((8 : Int32) * x1) + zv_8).toNatClampNeg) / (100 : Int32))) + x4) g).bind (fun zv_17 => ((f_X3_setPlace x1 zv_8 (0 : Int32) zv_17).bind (fun zv_18 => (if (R_down zv_18) = (0 : Int32) then some (((R_pl g (((8 : Int32) * x1) + zv_8).toNatClampNeg) / (100 : Int32)), zv_18) else some ((-2 : Int32), zv_18))))))))))) else some ((-5 : Int32), g)))) else some ((-4 : Int32), g)))) else some ((-3 : Int32), g)))) else some ((-2 : Int32), g))))))))))
set_option maxHeartbeats 4000000 in
set_option maxRecDepth 100000 in
theorem c_X3_rename (l : Launch) (D : va_G) (cI cJ : ClassId) (h0 qk qs qp qw qr qo qn sz : Nat) (g : RS) (x1 : Int32) (x2 : Int32) (x3 : Int32) (x4 : Int32) (r : Int32) (g1 : RS) (hf : f_X3_rename x1 x2 x3 x4 g = some (r, g1)) : Met l yX3_rename wsX3_rename { frames := 2, cells := 0, slots := 0, locals := 47 } (gPc D (gT cI cJ) sz (wR h0 qk qs qp qw qr qo qn cI cJ g) [.ref h0, .int x1, .int x2, .int x3, .int x4]) (gQi D (gT cI cJ) (va_A (wR h0 qk qs qp qw qr qo qn cI cJ g) sz) r (wR h0 qk qs qp qw qr qo qn cI cJ g1)) 0 0 (va_A (wR h0 qk qs qp qw qr qo qn cI cJ g) sz) := by
  refine gMet (cc := cX3_rename) (maxL := 8) (ret := (some .int)) (by decide) rfl ?_ (Nat.le_of_ble_eq_true rfl)
  intro p e0 s m below meth c ls B hr hlk hsz hK hG hl
  have hA : ∀ q : Nat, s.heap.size ≤ q → va_A (wR h0 qk qs qp qw qr qo qn cI cJ g) sz q := fun q h => Or.inr (hsz ▸ h)
  have hx := B.1
  have hb := B.2.1
  have hts := B.2.2.2.2
  have hl : lv_has ls 8 [(0, .ref h0), (1, .int x1), (2, .int x2), (3, .int x3), (4, .int x4)] := hl
  generalize va_A (wR h0 qk qs qp qw qr qo qn cI cJ g) sz = A at hA hG ⊢
  have hinX3 : ∀ x ∈ wsX30, x ∈ wsX3_rename := by decide +kernel
  have m_7 : Cond.fieldLink RX3 7 "BlockMoverModel" "kind" "[I" ∈ wsX3_rename := by decide +kernel
  have m_16 : Cond.fieldLink RX3 16 "BlockMoverModel" "places" "[I" ∈ wsX3_rename := by decide +kernel
  have m_36 : Cond.fieldLink RX3 36 "BlockMoverModel" "down" "Z" ∈ wsX3_rename := by decide +kernel
  unfold f_X3_rename at hf
  refine lv_aload_n hx hb dX3_rename_0 rfl (lv_at hl 0 rfl) ?_
  refine lv_iload_n hx hb dX3_rename_1 rfl (lv_at hl 1 rfl) ?_
  refine lv_iconst (v := 1) hx hb dX3_rename_2 (by decide) ?_
  obtain ⟨zv_1, hqzv_1, hf⟩ := ob hf
  refine gc_Vi hA hK hl.1 hG B (c_X3_isInode l D cI cJ h0 qk qs qp qw qr qo qn _ g x1 (1 : Int32) _ hqzv_1) (cwV 2 hts gX3_rename_X3_isInode rfl rfl rfl (by decide +kernel) ⟨by decide, by decide⟩) 0 rfl rfl rfl rfl rfl (Nat.le_of_ble_eq_true rfl) dX3_rename_3 ⟨Nat.zero_le _, Nat.zero_le _⟩ (fun H locs hG => ?_)
  refine lv_if_eq (tgt := 33) hx hb dX3_rename_6 (by decide) (fun cq_2 => ?_) (fun cq_2 => ?_)
  · have hf := ifT cq_2 hf
    refine lv_iconst (v := -1) hx hb dX3_rename_33 (by decide) ?_
    have hf := Option.some.inj hf
    obtain ⟨e1, e2⟩ := Prod.mk.inj hf
    subst e2
    exact g_iret hr hlk hK hG B rfl e1 dX3_rename_34
  · have hf := ifF cq_2 hf
    refine lv_iload_n hx hb dX3_rename_9 rfl (lv_at hl 2 rfl) ?_
    refine gc_Si hA hK hl.1 hG B (c_X3_isName l D (gT cI cJ) _ (wR h0 qk qs qp qw qr qo qn cI cJ g) x2 _ rfl) (va_cwS 1 hts gX3_rename_X3_isName rfl rfl rfl (by decide +kernel) ⟨by decide, by decide⟩) rfl rfl (Nat.le_of_ble_eq_true rfl) dX3_rename_10 ⟨Nat.zero_le _, Nat.zero_le _⟩ (fun H locs hG => ?_)
    refine lv_if_eq (tgt := 33) hx hb dX3_rename_13 (by decide) (fun cq_3 => ?_) (fun cq_3 => ?_)
    · have hf := ifT cq_3 hf
      refine lv_iconst (v := -1) hx hb dX3_rename_33 (by decide) ?_
      have hf := Option.some.inj hf
      obtain ⟨e1, e2⟩ := Prod.mk.inj hf
      subst e2
      exact g_iret hr hlk hK hG B rfl e1 dX3_rename_34
    · have hf := ifF cq_3 hf
      refine lv_aload_n hx hb dX3_rename_16 rfl (lv_at hl 0 rfl) ?_
      refine lv_iload_n hx hb dX3_rename_17 rfl (lv_at hl 3 rfl) ?_
      refine lv_iconst (v := 1) hx hb dX3_rename_18 (by decide) ?_
      obtain ⟨zv_4, hqzv_4, hf⟩ := ob hf
      refine gc_Vi hA hK hl.1 hG B (c_X3_isInode l D cI cJ h0 qk qs qp qw qr qo qn _ g x3 (1 : Int32) _ hqzv_4) (cwV 2 hts gX3_rename_X3_isInode rfl rfl rfl (by decide +kernel) ⟨by decide, by decide⟩) 0 rfl rfl rfl rfl rfl (Nat.le_of_ble_eq_true rfl) dX3_rename_19 ⟨Nat.zero_le _, Nat.zero_le _⟩ (fun H locs hG => ?_)
      refine lv_if_eq (tgt := 33) hx hb dX3_rename_22 (by decide) (fun cq_5 => ?_) (fun cq_5 => ?_)
      · have hf := ifT cq_5 hf
        refine lv_iconst (v := -1) hx hb dX3_rename_33 (by decide) ?_
        have hf := Option.some.inj hf
        obtain ⟨e1, e2⟩ := Prod.mk.inj hf
        subst e2
        exact g_iret hr hlk hK hG B rfl e1 dX3_rename_34
      · have hf := ifF cq_5 hf
        refine lv_iload hx hb dX3_rename_25 (lv_at hl 4 rfl) ?_
        refine gc_Si hA hK hl.1 hG B (c_X3_isName l D (gT cI cJ) _ (wR h0 qk qs qp qw qr qo qn cI cJ g) x4 _ rfl) (va_cwS 1 hts gX3_rename_X3_isName rfl rfl rfl (by decide +kernel) ⟨by decide, by decide⟩) rfl rfl (Nat.le_of_ble_eq_true rfl) dX3_rename_27 ⟨Nat.zero_le _, Nat.zero_le _⟩ (fun H locs hG => ?_)
        refine lv_if_ne (tgt := 35) hx hb dX3_rename_30 (by decide) (fun cq_6 => ?_) (fun cq_6 => ?_)
        · have hf := ifF cq_6 hf
          refine lv_aload_n hx hb dX3_rename_35 rfl (lv_at hl 0 rfl) ?_
          refine g_get hK hG B hinX3 0 rfl rfl 5 (by decide) m_36 rfl dX3_rename_36 ?_
          refine lv_if_eq (tgt := 45) hx hb dX3_rename_39 (by decide) (fun cq_7 => ?_) (fun cq_7 => ?_)
          · have hf := ifT cq_7 hf
            refine lv_aload_n hx hb dX3_rename_45 rfl (lv_at hl 0 rfl) ?_
            refine lv_iload_n hx hb dX3_rename_46 rfl (lv_at hl 1 rfl) ?_
            refine lv_iload_n hx hb dX3_rename_47 rfl (lv_at hl 2 rfl) ?_
            obtain ⟨zv_8, hqzv_8, hf⟩ := ob hf
            refine gc_Vi hA hK hl.1 hG B (c_X3_entry l D cI cJ h0 qk qs qp qw qr qo qn _ g x1 x2 _ hqzv_8) (cwV 2 hts gX3_rename_X3_entry rfl rfl rfl (by decide +kernel) ⟨by decide, by decide⟩) 0 rfl rfl rfl rfl rfl (Nat.le_of_ble_eq_true rfl) dX3_rename_48 ⟨Nat.zero_le _, Nat.zero_le _⟩ (fun H locs hG => ?_)
            refine lv_istore (lv' := [(5, .int zv_8), (0, .ref h0), (1, .int x1), (2, .int x2), (3, .int x3), (4, .int x4)]) hx hb dX3_rename_51 hl (by decide) rfl (fun ls hl => ?_)
            refine lv_iload hx hb dX3_rename_53 (lv_at hl 0 rfl) ?_
            refine lv_if_ge (tgt := 61) hx hb dX3_rename_55 (by decide) (fun cq_9 => ?_) (fun cq_9 => ?_)
            · have hf := ifT cq_9 hf
              refine lv_aload_n hx hb dX3_rename_61 rfl (lv_at hl 1 rfl) ?_
              refine lv_iload_n hx hb dX3_rename_62 rfl (lv_at hl 4 rfl) ?_
              refine lv_iload hx hb dX3_rename_63 (lv_at hl 5 rfl) ?_
              obtain ⟨zv_10, hqzv_10, hf⟩ := ob hf
              refine gc_Vi hA hK hl.1 hG B (c_X3_entry l D cI cJ h0 qk qs qp qw qr qo qn _ g x3 x4 _ hqzv_10) (cwV 2 hts gX3_rename_X3_entry rfl rfl rfl (by decide +kernel) ⟨by decide, by decide⟩) 0 rfl rfl rfl rfl rfl (Nat.le_of_ble_eq_true rfl) dX3_rename_65 ⟨Nat.zero_le _, Nat.zero_le _⟩ (fun H locs hG => ?_)
              refine lv_if_lt (tgt := 74) hx hb dX3_rename_68 (by decide) (fun cq_11 => ?_) (fun cq_11 => ?_)
              · have hf := ifT cq_11 hf
                refine lv_aload_n hx hb dX3_rename_74 rfl (lv_at hl 1 rfl) ?_
                refine lv_iload_n hx hb dX3_rename_75 rfl (lv_at hl 4 rfl) ?_
                obtain ⟨zv_12, hqzv_12, hf⟩ := ob hf
                refine gc_Vi hA hK hl.1 hG B (c_X3_noEntry l D cI cJ h0 qk qs qp qw qr qo qn _ g x3 _ hqzv_12) (cwV 1 hts gX3_rename_X3_noEntry rfl rfl rfl (by decide +kernel) ⟨by decide, by decide⟩) 0 rfl rfl rfl rfl rfl (Nat.le_of_ble_eq_true rfl) dX3_rename_76 ⟨Nat.zero_le _, Nat.zero_le _⟩ (fun H locs hG => ?_)
                refine lv_istore (lv' := [(6, .int zv_12), (5, .int zv_8), (0, .ref h0), (1, .int x1), (2, .int x2), (3, .int x3), (4, .int x4)]) hx hb dX3_rename_79 hl (by decide) rfl (fun ls hl => ?_)
                refine lv_iload hx hb dX3_rename_81 (lv_at hl 0 rfl) ?_
                refine lv_if_ge (tgt := 89) hx hb dX3_rename_83 (by decide) (fun cq_13 => ?_) (fun cq_13 => ?_)
                · have hf := ifT cq_13 hf
                  refine lv_aload_n hx hb dX3_rename_89 rfl (lv_at hl 2 rfl) ?_
                  refine g_get hK hG B hinX3 0 rfl rfl 2 (by decide) m_16 rfl dX3_rename_90 ?_
                  refine lv_bipush (v := 8) hx hb dX3_rename_93 (by decide) ?_
                  refine lv_iload_n hx hb dX3_rename_95 rfl (lv_at hl 3 rfl) ?_
                  refine lv_imul hx hb dX3_rename_96 ?_
                  refine lv_iload hx hb dX3_rename_97 (lv_at hl 1 rfl) ?_
                  refine lv_iadd hx hb dX3_rename_99 ?_
                  obtain ⟨vq_14, hf⟩ := chk_s hf
                  refine g_iald hK hG B 3 rfl vq_14 dX3_rename_100 ?_
                  refine lv_bipush (v := 100) hx hb dX3_rename_101 (by decide) ?_
                  refine lv_idiv hx hb dX3_rename_103 (by decide) ?_
                  refine lv_istore (lv' := [(7, .int ((R_pl g (((8 : Int32) * x1) + zv_8).toNatClampNeg) / (100 : Int32))), (6, .int zv_12), (5, .int zv_8), (0, .ref h0), (1, .int x1), (2, .int x2), (3, .int x3), (4, .int x4)]) hx hb dX3_rename_104 hl (by decide) rfl (fun ls hl => ?_)
                  refine lv_aload_n hx hb dX3_rename_106 rfl (lv_at hl 3 rfl) ?_
                  refine g_get hK hG B hinX3 0 rfl rfl 0 (by decide) m_7 rfl dX3_rename_107 ?_
                  refine lv_iload hx hb dX3_rename_110 (lv_at hl 0 rfl) ?_
                  obtain ⟨vq_15, hf⟩ := chk_s hf
                  refine g_iald hK hG B 1 rfl vq_15 dX3_rename_112 ?_
                  refine lv_iconst (v := 1) hx hb dX3_rename_113 (by decide) ?_
                  refine lv_icmp_ne (tgt := 130) hx hb dX3_rename_114 (by decide) (fun cq_16 => ?_) (fun cq_16 => ?_)
                  · have hf := ifF cq_16 hf
                    refine lv_aload_n hx hb dX3_rename_130 rfl (lv_at hl 3 rfl) ?_
                    refine lv_iload_n hx hb dX3_rename_131 rfl (lv_at hl 6 rfl) ?_
                    refine lv_iload hx hb dX3_rename_132 (lv_at hl 1 rfl) ?_
                    refine lv_bipush (v := 100) hx hb dX3_rename_134 (by decide) ?_
                    refine lv_iload hx hb dX3_rename_136 (lv_at hl 0 rfl) ?_
                    refine lv_imul hx hb dX3_rename_138 ?_
                    refine lv_iload hx hb dX3_rename_139 (lv_at hl 7 rfl) ?_
                    refine lv_iadd hx hb dX3_rename_141 ?_
                    obtain ⟨zv_17, hqzv_17, hf⟩ := ob hf
                    refine gc_Vv hA hK hl.1 hG B (c_X3_setPlace l D cI cJ h0 qk qs qp qw qr qo qn _ g x3 zv_12 (((100 : Int32) * ((R_pl g (((8 : Int32) * x1) + zv_8).toNatClampNeg) / (100 : Int32))) + x4) _ hqzv_17) (cwV 3 hts gX3_rename_X3_setPlace rfl rfl rfl (by decide +kernel) ⟨by decide, by decide⟩) 0 rfl rfl rfl rfl rfl (Nat.le_of_ble_eq_true rfl) dX3_rename_142 ⟨Nat.zero_le _, Nat.zero_le _⟩ (fun H locs hG => ?_)
                    refine lv_aload_n hx hb dX3_rename_145 rfl (lv_at hl 3 rfl) ?_
                    refine lv_iload_n hx hb dX3_rename_146 rfl (lv_at hl 4 rfl) ?_
                    refine lv_iload hx hb dX3_rename_147 (lv_at hl 2 rfl) ?_
                    refine lv_iconst (v := 0) hx hb dX3_rename_149 (by decide) ?_
                    obtain ⟨zv_18, hqzv_18, hf⟩ := ob hf
                    refine gc_Vv hA hK hl.1 hG B (c_X3_setPlace l D cI cJ h0 qk qs qp qw qr qo qn _ zv_17 x1 zv_8 (0 : Int32) _ hqzv_18) (cwV 3 hts gX3_rename_X3_setPlace rfl rfl rfl (by decide +kernel) ⟨by decide, by decide⟩) 0 rfl rfl rfl rfl rfl (Nat.le_of_ble_eq_true rfl) dX3_rename_150 ⟨Nat.zero_le _, Nat.zero_le _⟩ (fun H locs hG => ?_)
                    refine lv_aload_n hx hb dX3_rename_153 rfl (lv_at hl 3 rfl) ?_
                    refine g_get hK hG B hinX3 0 rfl rfl 5 (by decide) m_36 rfl dX3_rename_154 ?_
                    refine lv_if_eq (tgt := 165) hx hb dX3_rename_157 (by decide) (fun cq_19 => ?_) (fun cq_19 => ?_)
                    · have hf := ifT cq_19 hf
                      refine lv_iload hx hb dX3_rename_165 (lv_at hl 0 rfl) ?_
                      have hf := Option.some.inj hf
                      obtain ⟨e1, e2⟩ := Prod.mk.inj hf
                      subst e2
                      exact g_iret hr hlk hK hG B rfl e1 dX3_rename_167
                    · have hf := ifF cq_19 hf
                      refine lv_bipush (v := -2) hx hb dX3_rename_160 (by decide) ?_
                      refine lv_goto (tgt := 167) hx hb dX3_rename_162 (by decide) ?_
                      have hf := Option.some.inj hf
                      obtain ⟨e1, e2⟩ := Prod.mk.inj hf
                      subst e2
                      exact g_iret hr hlk hK hG B rfl e1 dX3_rename_167
                  · have hf := ifT cq_16 hf
                    refine lv_aload_n hx hb dX3_rename_117 rfl (lv_at hl 3 rfl) ?_
                    refine lv_iload_n hx hb dX3_rename_118 rfl (lv_at hl 6 rfl) ?_
                    refine lv_iload hx hb dX3_rename_119 (lv_at hl 0 rfl) ?_
                    obtain ⟨zv_20, hqzv_20, hf⟩ := ob hf
                    refine gc_Vi hA hK hl.1 hG B (c_X3_isWithin l D cI cJ h0 qk qs qp qw qr qo qn _ g x3 ((R_pl g (((8 : Int32) * x1) + zv_8).toNatClampNeg) / (100 : Int32)) _ hqzv_20) (cwV 2 hts gX3_rename_X3_isWithin rfl rfl rfl (by decide +kernel) ⟨by decide, by decide⟩) 0 rfl rfl rfl rfl rfl (Nat.le_of_ble_eq_true rfl) dX3_rename_121 ⟨Nat.zero_le _, Nat.zero_le _⟩ (fun H locs hG => ?_)
                    refine lv_if_eq (tgt := 130) hx hb dX3_rename_124 (by decide) (fun cq_21 => ?_) (fun cq_21 => ?_)
                    · have hf := ifT cq_21 hf
                      refine lv_aload_n hx hb dX3_rename_130 rfl (lv_at hl 3 rfl) ?_
                      refine lv_iload_n hx hb dX3_rename_131 rfl (lv_at hl 6 rfl) ?_
                      refine lv_iload hx hb dX3_rename_132 (lv_at hl 1 rfl) ?_
                      refine lv_bipush (v := 100) hx hb dX3_rename_134 (by decide) ?_
                      refine lv_iload hx hb dX3_rename_136 (lv_at hl 0 rfl) ?_
                      refine lv_imul hx hb dX3_rename_138 ?_
                      refine lv_iload hx hb dX3_rename_139 (lv_at hl 7 rfl) ?_
                      refine lv_iadd hx hb dX3_rename_141 ?_
                      obtain ⟨zv_22, hqzv_22, hf⟩ := ob hf
                      refine gc_Vv hA hK hl.1 hG B (c_X3_setPlace l D cI cJ h0 qk qs qp qw qr qo qn _ g x3 zv_12 (((100 : Int32) * ((R_pl g (((8 : Int32) * x1) + zv_8).toNatClampNeg) / (100 : Int32))) + x4) _ hqzv_22) (cwV 3 hts gX3_rename_X3_setPlace rfl rfl rfl (by decide +kernel) ⟨by decide, by decide⟩) 0 rfl rfl rfl rfl rfl (Nat.le_of_ble_eq_true rfl) dX3_rename_142 ⟨Nat.zero_le _, Nat.zero_le _⟩ (fun H locs hG => ?_)
                      refine lv_aload_n hx hb dX3_rename_145 rfl (lv_at hl 3 rfl) ?_
                      refine lv_iload_n hx hb dX3_rename_146 rfl (lv_at hl 4 rfl) ?_
                      refine lv_iload hx hb dX3_rename_147 (lv_at hl 2 rfl) ?_
                      refine lv_iconst (v := 0) hx hb dX3_rename_149 (by decide) ?_
                      obtain ⟨zv_23, hqzv_23, hf⟩ := ob hf
                      refine gc_Vv hA hK hl.1 hG B (c_X3_setPlace l D cI cJ h0 qk qs qp qw qr qo qn _ zv_22 x1 zv_8 (0 : Int32) _ hqzv_23) (cwV 3 hts gX3_rename_X3_setPlace rfl rfl rfl (by decide +kernel) ⟨by decide, by decide⟩) 0 rfl rfl rfl rfl rfl (Nat.le_of_ble_eq_true rfl) dX3_rename_150 ⟨Nat.zero_le _, Nat.zero_le _⟩ (fun H locs hG => ?_)
                      refine lv_aload_n hx hb dX3_rename_153 rfl (lv_at hl 3 rfl) ?_
                      refine g_get hK hG B hinX3 0 rfl rfl 5 (by decide) m_36 rfl dX3_rename_154 ?_
                      refine lv_if_eq (tgt := 165) hx hb dX3_rename_157 (by decide) (fun cq_24 => ?_) (fun cq_24 => ?_)
                      · have hf := ifT cq_24 hf
                        refine lv_iload hx hb dX3_rename_165 (lv_at hl 0 rfl) ?_
                        have hf := Option.some.inj hf
                        obtain ⟨e1, e2⟩ := Prod.mk.inj hf
                        subst e2
                        exact g_iret hr hlk hK hG B rfl e1 dX3_rename_167
                      · have hf := ifF cq_24 hf
                        refine lv_bipush (v := -2) hx hb dX3_rename_160 (by decide) ?_
                        refine lv_goto (tgt := 167) hx hb dX3_rename_162 (by decide) ?_
                        have hf := Option.some.inj hf
                        obtain ⟨e1, e2⟩ := Prod.mk.inj hf
                        subst e2
                        exact g_iret hr hlk hK hG B rfl e1 dX3_rename_167
                    · have hf := ifF cq_21 hf
                      refine lv_bipush (v := -6) hx hb dX3_rename_127 (by decide) ?_
                      have hf := Option.some.inj hf
                      obtain ⟨e1, e2⟩ := Prod.mk.inj hf
                      subst e2
                      exact g_iret hr hlk hK hG B rfl e1 dX3_rename_129
                · have hf := ifF cq_13 hf
                  refine lv_bipush (v := -5) hx hb dX3_rename_86 (by decide) ?_
                  have hf := Option.some.inj hf
                  obtain ⟨e1, e2⟩ := Prod.mk.inj hf
                  subst e2
                  exact g_iret hr hlk hK hG B rfl e1 dX3_rename_88
              · have hf := ifF cq_11 hf
                refine lv_bipush (v := -4) hx hb dX3_rename_71 (by decide) ?_
                have hf := Option.some.inj hf
                obtain ⟨e1, e2⟩ := Prod.mk.inj hf
                subst e2
                exact g_iret hr hlk hK hG B rfl e1 dX3_rename_73
            · have hf := ifF cq_9 hf
              refine lv_bipush (v := -3) hx hb dX3_rename_58 (by decide) ?_
              have hf := Option.some.inj hf
              obtain ⟨e1, e2⟩ := Prod.mk.inj hf
              subst e2
              exact g_iret hr hlk hK hG B rfl e1 dX3_rename_60
          · have hf := ifF cq_7 hf
            refine lv_bipush (v := -2) hx hb dX3_rename_42 (by decide) ?_
            have hf := Option.some.inj hf
            obtain ⟨e1, e2⟩ := Prod.mk.inj hf
            subst e2
            exact g_iret hr hlk hK hG B rfl e1 dX3_rename_44
        · have hf := ifT cq_6 hf
          refine lv_iconst (v := -1) hx hb dX3_rename_33 (by decide) ?_
          have hf := Option.some.inj hf
          obtain ⟨e1, e2⟩ := Prod.mk.inj hf
          subst e2
          exact g_iret hr hlk hK hG B rfl e1 dX3_rename_34
def b_X3_lookAt_44 (y3_44 : Int32) (y4_44 : Int32) (y5_44 : Int32) (g44 : RS) : Option ((RS) ⊕ (Int32 × RS)) := (if y5_44 < (0 : Int32) then some (.inl g44) else (chk y4_44 12 ((if (R_kind g44 y4_44.toNatClampNeg) = (2 : Int32) then (chk y4_44 12 ((if (R_size g44 y4_44.toNatClampNeg) ≤ y5_44 then some (.inr ((y5_44 + (-1 : Int32)), g44)) else (chk (((8 : Int32) * y4_44) + y5_44) 96 ((if (R_pl g44 (((8 : Int32) * y4_44) + y5_44).toNatClampNeg) = y3_44 then some (.inr ((y5_44 + (-1 : Int32)), (sR_pp y5_44 (sR_pi y4_44 g44)))) else some (.inr ((y5_44 + (-1 : Int32)), g44)))))))) else some (.inr ((y5_44 + (-1 : Int32)), g44))))))
def b_X3_lookAt_35 (y3_35 : Int32) (y4_35 : Int32) (g35 : RS) : Option ((RS) ⊕ (Int32 × RS)) := (if y4_35 < (0 : Int32) then some (.inl g35) else ((itl (fun a : Int32 × RS => b_X3_lookAt_44 y3_35 y4_35 a.1 a.2) 300 ((7 : Int32), g35)).bind (fun ev_14 => some (.inr ((y4_35 + (-1 : Int32)), ev_14)))))
def f_X3_lookAt (x1 : Int32) (x2 : Int32) (x3 : Int32) (g : RS) : Option (Int32 × RS) := ((f_X3_isUsed x3 (sR_pt x3 (sR_pp x2 (sR_pi x1 g)))).bind (fun zv_1 => (if zv_1 = (0 : Int32) then (chk (((8 : Int32) * (R_pi (sR_pt x3 (sR_pp x2 (sR_pi x1 g))))) + (R_pp (sR_pt x3 (sR_pp x2 (sR_pi x1 g))))) 96 ((if (0 : Int32) ≤ (R_pt (sR_pf (R_pl (sR_pt x3 (sR_pp x2 (sR_pi x1 g))) (((8 : Int32) * (R_pi (sR_pt x3 (sR_pp x2 (sR_pi x1 g))))) + (R_pp (sR_pt x3 (sR_pp x2 (sR_pi x1 g))))).toNatClampNeg) (sR_pt x3 (sR_pp x2 (sR_pi x1 g))))) then some ((1 : Int32), (sR_pf (R_pl (sR_pt x3 (sR_pp x2 (sR_pi x1 g))) (((8 : Int32) * (R_pi (sR_pt x3 (sR_pp x2 (sR_pi x1 g))))) + (R_pp (sR_pt x3 (sR_pp x2 (sR_pi x1 g))))).toNatClampNeg) (sR_pt x3 (sR_pp x2 (sR_pi x1 g))))) else some ((-5 : Int32), (sR_pf (R_pl (sR_pt x3 (sR_pp x2 (sR_pi x1 g))) (((8 : Int32) * (R_pi (sR_pt x3 (sR_pp x2 (sR_pi x1 g))))) + (R_pp (sR_pt x3 (sR_pp x2 (sR_pi x1 g))))).toNatClampNeg) (sR_pt x3 (sR_pp x2 (sR_pi x1 g)))))))) else ((f_X3_greatestFree  (sR_pt x3 (sR_pp x2 (sR_pi x1 g)))).bind (fun zv_5 => ((itl (fun a : Int32 × RS => b_X3_lookAt_35 x3 a.1 a.2) 300 ((11 : Int32), (sR_pt zv_5 (sR_pt x3 (sR_pp x2 (sR_pi x1 g)))))).bind (fun ev_15 => (chk (((8 : Int32) * (R_pi ev_15)) + (R_pp ev_15)) 96 ((if (0 : Int32) ≤ (R_pt (sR_pf (R_pl ev_15 (((8 : Int32) * (R_pi ev_15)) + (R_pp ev_15)).toNatClampNeg) ev_15)) then some ((1 : Int32), (sR_pf (R_pl ev_15 (((8 : Int32) * (R_pi ev_15)) + (R_pp ev_15)).toNatClampNeg) ev_15)) else some ((-5 : Int32), (sR_pf (R_pl ev_15 (((8 : Int32) * (R_pi ev_15)) + (R_pp ev_15)).toNatClampNeg) ev_15))))))))))))
set_option maxHeartbeats 4000000 in
set_option maxRecDepth 100000 in
theorem c_X3_lookAt (l : Launch) (D : va_G) (cI cJ : ClassId) (h0 qk qs qp qw qr qo qn sz : Nat) (g : RS) (x1 : Int32) (x2 : Int32) (x3 : Int32) (r : Int32) (g1 : RS) (hf : f_X3_lookAt x1 x2 x3 g = some (r, g1)) : Met l yX3_lookAt wsX3_lookAt { frames := 2, cells := 0, slots := 0, locals := 44 } (gPc D (gT cI cJ) sz (wR h0 qk qs qp qw qr qo qn cI cJ g) [.ref h0, .int x1, .int x2, .int x3]) (gQi D (gT cI cJ) (va_A (wR h0 qk qs qp qw qr qo qn cI cJ g) sz) r (wR h0 qk qs qp qw qr qo qn cI cJ g1)) 0 0 (va_A (wR h0 qk qs qp qw qr qo qn cI cJ g) sz) := by
  refine gMet (cc := cX3_lookAt) (maxL := 6) (ret := (some .int)) (by decide) rfl ?_ (Nat.le_of_ble_eq_true rfl)
  intro p e0 s m below meth c ls B hr hlk hsz hK hG hl
  have hA : ∀ q : Nat, s.heap.size ≤ q → va_A (wR h0 qk qs qp qw qr qo qn cI cJ g) sz q := fun q h => Or.inr (hsz ▸ h)
  have hx := B.1
  have hb := B.2.1
  have hts := B.2.2.2.2
  have hl : lv_has ls 6 [(0, .ref h0), (1, .int x1), (2, .int x2), (3, .int x3)] := hl
  generalize va_A (wR h0 qk qs qp qw qr qo qn cI cJ g) sz = A at hA hG ⊢
  have hinX3 : ∀ x ∈ wsX30, x ∈ wsX3_lookAt := by decide +kernel
  have m_7 : Cond.fieldLink RX3 7 "BlockMoverModel" "kind" "[I" ∈ wsX3_lookAt := by decide +kernel
  have m_13 : Cond.fieldLink RX3 13 "BlockMoverModel" "size" "[I" ∈ wsX3_lookAt := by decide +kernel
  have m_16 : Cond.fieldLink RX3 16 "BlockMoverModel" "places" "[I" ∈ wsX3_lookAt := by decide +kernel
  have m_107 : Cond.fieldLink RX3 107 "BlockMoverModel" "planInode" "I" ∈ wsX3_lookAt := by decide +kernel
  have m_110 : Cond.fieldLink RX3 110 "BlockMoverModel" "planPlace" "I" ∈ wsX3_lookAt := by decide +kernel
  have m_113 : Cond.fieldLink RX3 113 "BlockMoverModel" "planTo" "I" ∈ wsX3_lookAt := by decide +kernel
  have m_119 : Cond.fieldLink RX3 119 "BlockMoverModel" "planFrom" "I" ∈ wsX3_lookAt := by decide +kernel
  have L44 : ∀ (res : (RS)) (y3_44 : Int32) (y4_44 : Int32), (∀ (H1 : Heap) (locs1 : List Loc) (ls1 : Array Slot) (e : RS), res = e → gG D A s.heap (wR h0 qk qs qp qw qr qo qn cI cJ e) H1 locs1 → lv_has ls1 6 [(0, .ref h0), (3, .int y3_44), (4, .int y4_44)] → W p l e0 { frames := 2, cells := 0, slots := 0, locals := 44 } s m ([.ref h0, .int x1, .int x2, .int x3] : List Value).toArray below meth c H1 locs1 0 0 (MQ below (gQi D (gT cI cJ) A r (wR h0 qk qs qp qw qr qo qn cI cJ g1)) ([.ref h0, .int x1, .int x2, .int x3] : List Value).toArray s 0 0 A) (F0 m 107 ls1 [])) → ∀ (n : Nat) (y5_44 : Int32) (g44 : RS) (H : Heap) (locs : List Loc) (ls : Array Slot), gG D A s.heap (wR h0 qk qs qp qw qr qo qn cI cJ g44) H locs → lv_has ls 6 [(0, .ref h0), (3, .int y3_44), (4, .int y4_44), (5, .int y5_44)] → itl (fun a : Int32 × RS => b_X3_lookAt_44 y3_44 y4_44 a.1 a.2) n (y5_44, g44) = some res → W p l e0 { frames := 2, cells := 0, slots := 0, locals := 44 } s m ([.ref h0, .int x1, .int x2, .int x3] : List Value).toArray below meth c H locs 0 0 (MQ below (gQi D (gT cI cJ) A r (wR h0 qk qs qp qw qr qo qn cI cJ g1)) ([.ref h0, .int x1, .int x2, .int x3] : List Value).toArray s 0 0 A) (F0 m 44 ls []) := by
    intro res y3_44 y4_44 hKe44 n
    induction n with
    | zero => exact fun y5_44 g44 H locs ls hG hl hf => (itl_0 hf).elim
    | succ n ih =>
      intro y5_44 g44 H locs ls hG hl hf
      obtain ⟨o, hf, ho44, hn44⟩ := itl_s hf
      have hf : b_X3_lookAt_44 y3_44 y4_44 y5_44 g44 = some o := hf
      unfold b_X3_lookAt_44 at hf
      refine lv_iload hx hb dX3_lookAt_44 (lv_at hl 3 rfl) ?_
      refine lv_if_lt (tgt := 107) hx hb dX3_lookAt_46 (by decide) (fun cq_7 => ?_) (fun cq_7 => ?_)
      · have hf := ifT cq_7 hf
        have hres := ho44 _ (Option.some.inj hf).symm
        exact hKe44 _ _ _ g44 hres.symm hG (lv_sub hl [0, 1, 2] rfl)
      · have hf := ifF cq_7 hf
        refine lv_aload_n hx hb dX3_lookAt_49 rfl (lv_at hl 0 rfl) ?_
        refine g_get hK hG B hinX3 0 rfl rfl 0 (by decide) m_7 rfl dX3_lookAt_50 ?_
        refine lv_iload hx hb dX3_lookAt_53 (lv_at hl 2 rfl) ?_
        obtain ⟨vq_8, hf⟩ := chk_s hf
        refine g_iald hK hG B 1 rfl vq_8 dX3_lookAt_55 ?_
        refine lv_iconst (v := 2) hx hb dX3_lookAt_56 (by decide) ?_
        refine lv_icmp_ne (tgt := 101) hx hb dX3_lookAt_57 (by decide) (fun cq_9 => ?_) (fun cq_9 => ?_)
        · have hf := ifF cq_9 hf
          refine lv_iinc (v := (y5_44 + (-1 : Int32))) (lv' := [(5, .int (y5_44 + (-1 : Int32))), (0, .ref h0), (3, .int y3_44), (4, .int y4_44)]) hx hb dX3_lookAt_101 hl (k := 3) rfl rfl (by decide) rfl (fun ls hl => ?_)
          refine lv_goto (tgt := 44) hx hb dX3_lookAt_104 (by decide) ?_
          have hn := hn44 _ (Option.some.inj hf).symm
          exact ih (y5_44 + (-1 : Int32)) g44 _ _ _ hG (lv_sub hl [1, 2, 3, 0] rfl) hn
        · have hf := ifT cq_9 hf
          refine lv_iload hx hb dX3_lookAt_60 (lv_at hl 3 rfl) ?_
          refine lv_aload_n hx hb dX3_lookAt_62 rfl (lv_at hl 0 rfl) ?_
          refine g_get hK hG B hinX3 0 rfl rfl 1 (by decide) m_13 rfl dX3_lookAt_63 ?_
          refine lv_iload hx hb dX3_lookAt_66 (lv_at hl 2 rfl) ?_
          obtain ⟨vq_10, hf⟩ := chk_s hf
          refine g_iald hK hG B 2 rfl vq_10 dX3_lookAt_68 ?_
          refine lv_icmp_ge (tgt := 101) hx hb dX3_lookAt_69 (by decide) (fun cq_11 => ?_) (fun cq_11 => ?_)
          · have hf := ifT cq_11 hf
            refine lv_iinc (v := (y5_44 + (-1 : Int32))) (lv' := [(5, .int (y5_44 + (-1 : Int32))), (0, .ref h0), (3, .int y3_44), (4, .int y4_44)]) hx hb dX3_lookAt_101 hl (k := 3) rfl rfl (by decide) rfl (fun ls hl => ?_)
            refine lv_goto (tgt := 44) hx hb dX3_lookAt_104 (by decide) ?_
            have hn := hn44 _ (Option.some.inj hf).symm
            exact ih (y5_44 + (-1 : Int32)) g44 _ _ _ hG (lv_sub hl [1, 2, 3, 0] rfl) hn
          · have hf := ifF cq_11 hf
            refine lv_aload_n hx hb dX3_lookAt_72 rfl (lv_at hl 0 rfl) ?_
            refine g_get hK hG B hinX3 0 rfl rfl 2 (by decide) m_16 rfl dX3_lookAt_73 ?_
            refine lv_bipush (v := 8) hx hb dX3_lookAt_76 (by decide) ?_
            refine lv_iload hx hb dX3_lookAt_78 (lv_at hl 2 rfl) ?_
            refine lv_imul hx hb dX3_lookAt_80 ?_
            refine lv_iload hx hb dX3_lookAt_81 (lv_at hl 3 rfl) ?_
            refine lv_iadd hx hb dX3_lookAt_83 ?_
            obtain ⟨vq_12, hf⟩ := chk_s hf
            refine g_iald hK hG B 3 rfl vq_12 dX3_lookAt_84 ?_
            refine lv_iload_n hx hb dX3_lookAt_85 rfl (lv_at hl 1 rfl) ?_
            refine lv_icmp_ne (tgt := 101) hx hb dX3_lookAt_86 (by decide) (fun cq_13 => ?_) (fun cq_13 => ?_)
            · have hf := ifF cq_13 hf
              refine lv_iinc (v := (y5_44 + (-1 : Int32))) (lv' := [(5, .int (y5_44 + (-1 : Int32))), (0, .ref h0), (3, .int y3_44), (4, .int y4_44)]) hx hb dX3_lookAt_101 hl (k := 3) rfl rfl (by decide) rfl (fun ls hl => ?_)
              refine lv_goto (tgt := 44) hx hb dX3_lookAt_104 (by decide) ?_
              have hn := hn44 _ (Option.some.inj hf).symm
              exact ih (y5_44 + (-1 : Int32)) g44 _ _ _ hG (lv_sub hl [1, 2, 3, 0] rfl) hn
            · have hf := ifT cq_13 hf
              refine lv_aload_n hx hb dX3_lookAt_89 rfl (lv_at hl 0 rfl) ?_
              refine lv_iload hx hb dX3_lookAt_90 (lv_at hl 2 rfl) ?_
              refine gp_R_pi hK hG B hinX3 m_107 dX3_lookAt_92 (fun H locs hG => ?_)
              refine lv_aload_n hx hb dX3_lookAt_95 rfl (lv_at hl 0 rfl) ?_
              refine lv_iload hx hb dX3_lookAt_96 (lv_at hl 3 rfl) ?_
              refine gp_R_pp hK hG B hinX3 m_110 dX3_lookAt_98 (fun H locs hG => ?_)
              refine lv_iinc (v := (y5_44 + (-1 : Int32))) (lv' := [(5, .int (y5_44 + (-1 : Int32))), (0, .ref h0), (3, .int y3_44), (4, .int y4_44)]) hx hb dX3_lookAt_101 hl (k := 3) rfl rfl (by decide) rfl (fun ls hl => ?_)
              refine lv_goto (tgt := 44) hx hb dX3_lookAt_104 (by decide) ?_
              have hn := hn44 _ (Option.some.inj hf).symm
              exact ih (y5_44 + (-1 : Int32)) (sR_pp y5_44 (sR_pi y4_44 g44)) _ _ _ hG (lv_sub hl [1, 2, 3, 0] rfl) hn
  have L35 : ∀ (res : (RS)) (y3_35 : Int32), (∀ (H1 : Heap) (locs1 : List Loc) (ls1 : Array Slot) (e : RS), res = e → gG D A s.heap (wR h0 qk qs qp qw qr qo qn cI cJ e) H1 locs1 → lv_has ls1 6 [(0, .ref h0)] → W p l e0 { frames := 2, cells := 0, slots := 0, locals := 44 } s m ([.ref h0, .int x1, .int x2, .int x3] : List Value).toArray below meth c H1 locs1 0 0 (MQ below (gQi D (gT cI cJ) A r (wR h0 qk qs qp qw qr qo qn cI cJ g1)) ([.ref h0, .int x1, .int x2, .int x3] : List Value).toArray s 0 0 A) (F0 m 113 ls1 [])) → ∀ (n : Nat) (y4_35 : Int32) (g35 : RS) (H : Heap) (locs : List Loc) (ls : Array Slot), gG D A s.heap (wR h0 qk qs qp qw qr qo qn cI cJ g35) H locs → lv_has ls 6 [(0, .ref h0), (3, .int y3_35), (4, .int y4_35)] → itl (fun a : Int32 × RS => b_X3_lookAt_35 y3_35 a.1 a.2) n (y4_35, g35) = some res → W p l e0 { frames := 2, cells := 0, slots := 0, locals := 44 } s m ([.ref h0, .int x1, .int x2, .int x3] : List Value).toArray below meth c H locs 0 0 (MQ below (gQi D (gT cI cJ) A r (wR h0 qk qs qp qw qr qo qn cI cJ g1)) ([.ref h0, .int x1, .int x2, .int x3] : List Value).toArray s 0 0 A) (F0 m 35 ls []) := by
    intro res y3_35 hKe35 n
    induction n with
    | zero => exact fun y4_35 g35 H locs ls hG hl hf => (itl_0 hf).elim
    | succ n ih =>
      intro y4_35 g35 H locs ls hG hl hf
      obtain ⟨o, hf, ho35, hn35⟩ := itl_s hf
      have hf : b_X3_lookAt_35 y3_35 y4_35 g35 = some o := hf
      unfold b_X3_lookAt_35 at hf
      refine lv_iload hx hb dX3_lookAt_35 (lv_at hl 2 rfl) ?_
      refine lv_if_lt (tgt := 113) hx hb dX3_lookAt_37 (by decide) (fun cq_6 => ?_) (fun cq_6 => ?_)
      · have hf := ifT cq_6 hf
        have hres := ho35 _ (Option.some.inj hf).symm
        exact hKe35 _ _ _ g35 hres.symm hG (lv_sub hl [0] rfl)
      · have hf := ifF cq_6 hf
        refine lv_bipush (v := 7) hx hb dX3_lookAt_40 (by decide) ?_
        refine lv_istore (lv' := [(5, .int (7 : Int32)), (0, .ref h0), (3, .int y3_35), (4, .int y4_35)]) hx hb dX3_lookAt_42 hl (by decide) rfl (fun ls hl => ?_)
        obtain ⟨zv_14, hizv_14, hf⟩ := ob hf
        refine L44 zv_14 y3_35 y4_35 (fun H locs ls ev_14 hres hG hl => ?_) 300 (7 : Int32) g35 _ _ _ hG (lv_sub hl [1, 2, 3, 0] rfl) hizv_14
        have hres := hres.symm
        subst hres
        refine lv_iinc (v := (y4_35 + (-1 : Int32))) (lv' := [(4, .int (y4_35 + (-1 : Int32))), (0, .ref h0), (3, .int y3_35)]) hx hb dX3_lookAt_107 hl (k := 2) rfl rfl (by decide) rfl (fun ls hl => ?_)
        refine lv_goto (tgt := 35) hx hb dX3_lookAt_110 (by decide) ?_
        have hn := hn35 _ (Option.some.inj hf).symm
        exact ih (y4_35 + (-1 : Int32)) ev_14 _ _ _ hG (lv_sub hl [1, 2, 0] rfl) hn
  unfold f_X3_lookAt at hf
  refine lv_aload_n hx hb dX3_lookAt_0 rfl (lv_at hl 0 rfl) ?_
  refine lv_iload_n hx hb dX3_lookAt_1 rfl (lv_at hl 1 rfl) ?_
  refine gp_R_pi hK hG B hinX3 m_107 dX3_lookAt_2 (fun H locs hG => ?_)
  refine lv_aload_n hx hb dX3_lookAt_5 rfl (lv_at hl 0 rfl) ?_
  refine lv_iload_n hx hb dX3_lookAt_6 rfl (lv_at hl 2 rfl) ?_
  refine gp_R_pp hK hG B hinX3 m_110 dX3_lookAt_7 (fun H locs hG => ?_)
  refine lv_aload_n hx hb dX3_lookAt_10 rfl (lv_at hl 0 rfl) ?_
  refine lv_iload_n hx hb dX3_lookAt_11 rfl (lv_at hl 3 rfl) ?_
  refine gp_R_pt hK hG B hinX3 m_113 dX3_lookAt_12 (fun H locs hG => ?_)
  refine lv_aload_n hx hb dX3_lookAt_15 rfl (lv_at hl 0 rfl) ?_
  refine lv_iload_n hx hb dX3_lookAt_16 rfl (lv_at hl 3 rfl) ?_
  obtain ⟨zv_1, hqzv_1, hf⟩ := ob hf
  refine gc_Vi hA hK hl.1 hG B (c_X3_isUsed l D cI cJ h0 qk qs qp qw qr qo qn _ (sR_pt x3 (sR_pp x2 (sR_pi x1 g))) x3 _ hqzv_1) (cwV 1 hts gX3_lookAt_X3_isUsed rfl rfl rfl (by decide +kernel) ⟨by decide, by decide⟩) 0 rfl rfl rfl rfl rfl (Nat.le_of_ble_eq_true rfl) dX3_lookAt_17 ⟨Nat.zero_le _, Nat.zero_le _⟩ (fun H locs hG => ?_)
  refine lv_if_eq (tgt := 113) hx hb dX3_lookAt_20 (by decide) (fun cq_2 => ?_) (fun cq_2 => ?_)
  · have hf := ifT cq_2 hf
    refine lv_aload_n hx hb dX3_lookAt_113 rfl (lv_at hl 0 rfl) ?_
    refine lv_aload_n hx hb dX3_lookAt_114 rfl (lv_at hl 0 rfl) ?_
    refine g_get hK hG B hinX3 0 rfl rfl 2 (by decide) m_16 rfl dX3_lookAt_115 ?_
    refine lv_bipush (v := 8) hx hb dX3_lookAt_118 (by decide) ?_
    refine lv_aload_n hx hb dX3_lookAt_120 rfl (lv_at hl 0 rfl) ?_
    refine g_get hK hG B hinX3 0 rfl rfl 11 (by decide) m_107 rfl dX3_lookAt_121 ?_
    refine lv_imul hx hb dX3_lookAt_124 ?_
    refine lv_aload_n hx hb dX3_lookAt_125 rfl (lv_at hl 0 rfl) ?_
    refine g_get hK hG B hinX3 0 rfl rfl 12 (by decide) m_110 rfl dX3_lookAt_126 ?_
    refine lv_iadd hx hb dX3_lookAt_129 ?_
    obtain ⟨vq_3, hf⟩ := chk_s hf
    refine g_iald hK hG B 3 rfl vq_3 dX3_lookAt_130 ?_
    refine gp_R_pf hK hG B hinX3 m_119 dX3_lookAt_131 (fun H locs hG => ?_)
    refine lv_aload_n hx hb dX3_lookAt_134 rfl (lv_at hl 0 rfl) ?_
    refine g_get hK hG B hinX3 0 rfl rfl 10 (by decide) m_113 rfl dX3_lookAt_135 ?_
    refine lv_if_ge (tgt := 146) hx hb dX3_lookAt_138 (by decide) (fun cq_4 => ?_) (fun cq_4 => ?_)
    · have hf := ifT cq_4 hf
      refine lv_iconst (v := 1) hx hb dX3_lookAt_146 (by decide) ?_
      have hf := Option.some.inj hf
      obtain ⟨e1, e2⟩ := Prod.mk.inj hf
      subst e2
      exact g_iret hr hlk hK hG B rfl e1 dX3_lookAt_147
    · have hf := ifF cq_4 hf
      refine lv_bipush (v := -5) hx hb dX3_lookAt_141 (by decide) ?_
      refine lv_goto (tgt := 147) hx hb dX3_lookAt_143 (by decide) ?_
      have hf := Option.some.inj hf
      obtain ⟨e1, e2⟩ := Prod.mk.inj hf
      subst e2
      exact g_iret hr hlk hK hG B rfl e1 dX3_lookAt_147
  · have hf := ifF cq_2 hf
    refine lv_aload_n hx hb dX3_lookAt_23 rfl (lv_at hl 0 rfl) ?_
    refine lv_aload_n hx hb dX3_lookAt_24 rfl (lv_at hl 0 rfl) ?_
    obtain ⟨zv_5, hqzv_5, hf⟩ := ob hf
    refine gc_Vi hA hK hl.1 hG B (c_X3_greatestFree l D cI cJ h0 qk qs qp qw qr qo qn _ (sR_pt x3 (sR_pp x2 (sR_pi x1 g)))  _ hqzv_5) (cwV 0 hts gX3_lookAt_X3_greatestFree rfl rfl rfl (by decide +kernel) ⟨by decide, by decide⟩) 0 rfl rfl rfl rfl rfl (Nat.le_of_ble_eq_true rfl) dX3_lookAt_25 ⟨Nat.zero_le _, Nat.zero_le _⟩ (fun H locs hG => ?_)
    refine gp_R_pt hK hG B hinX3 m_113 dX3_lookAt_28 (fun H locs hG => ?_)
    refine lv_bipush (v := 11) hx hb dX3_lookAt_31 (by decide) ?_
    refine lv_istore (lv' := [(4, .int (11 : Int32)), (0, .ref h0), (1, .int x1), (2, .int x2), (3, .int x3)]) hx hb dX3_lookAt_33 hl (by decide) rfl (fun ls hl => ?_)
    obtain ⟨zv_15, hizv_15, hf⟩ := ob hf
    refine L35 zv_15 x3 (fun H locs ls ev_15 hres hG hl => ?_) 300 (11 : Int32) (sR_pt zv_5 (sR_pt x3 (sR_pp x2 (sR_pi x1 g)))) _ _ _ hG (lv_sub hl [1, 4, 0] rfl) hizv_15
    have hres := hres.symm
    subst hres
    refine lv_aload_n hx hb dX3_lookAt_113 rfl (lv_at hl 0 rfl) ?_
    refine lv_aload_n hx hb dX3_lookAt_114 rfl (lv_at hl 0 rfl) ?_
    refine g_get hK hG B hinX3 0 rfl rfl 2 (by decide) m_16 rfl dX3_lookAt_115 ?_
    refine lv_bipush (v := 8) hx hb dX3_lookAt_118 (by decide) ?_
    refine lv_aload_n hx hb dX3_lookAt_120 rfl (lv_at hl 0 rfl) ?_
    refine g_get hK hG B hinX3 0 rfl rfl 11 (by decide) m_107 rfl dX3_lookAt_121 ?_
    refine lv_imul hx hb dX3_lookAt_124 ?_
    refine lv_aload_n hx hb dX3_lookAt_125 rfl (lv_at hl 0 rfl) ?_
    refine g_get hK hG B hinX3 0 rfl rfl 12 (by decide) m_110 rfl dX3_lookAt_126 ?_
    refine lv_iadd hx hb dX3_lookAt_129 ?_
    obtain ⟨vq_16, hf⟩ := chk_s hf
    refine g_iald hK hG B 3 rfl vq_16 dX3_lookAt_130 ?_
    refine gp_R_pf hK hG B hinX3 m_119 dX3_lookAt_131 (fun H locs hG => ?_)
    refine lv_aload_n hx hb dX3_lookAt_134 rfl (lv_at hl 0 rfl) ?_
    refine g_get hK hG B hinX3 0 rfl rfl 10 (by decide) m_113 rfl dX3_lookAt_135 ?_
    refine lv_if_ge (tgt := 146) hx hb dX3_lookAt_138 (by decide) (fun cq_17 => ?_) (fun cq_17 => ?_)
    · have hf := ifT cq_17 hf
      refine lv_iconst (v := 1) hx hb dX3_lookAt_146 (by decide) ?_
      have hf := Option.some.inj hf
      obtain ⟨e1, e2⟩ := Prod.mk.inj hf
      subst e2
      exact g_iret hr hlk hK hG B rfl e1 dX3_lookAt_147
    · have hf := ifF cq_17 hf
      refine lv_bipush (v := -5) hx hb dX3_lookAt_141 (by decide) ?_
      refine lv_goto (tgt := 147) hx hb dX3_lookAt_143 (by decide) ?_
      have hf := Option.some.inj hf
      obtain ⟨e1, e2⟩ := Prod.mk.inj hf
      subst e2
      exact g_iret hr hlk hK hG B rfl e1 dX3_lookAt_147
