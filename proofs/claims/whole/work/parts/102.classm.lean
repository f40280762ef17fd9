def f_X2_append (x1 : Int32) (x2 : Int64) (x4 : Int64) (x6 : Int64) (g : CS) : Option (Int32 × CS) := (if (f_X2_isOfKind x1 (2 : Int32) g) = (0 : Int32) then some ((-1 : Int32), g) else (if (C_down g) = (0 : Int32) then ((f_X2_usedBlocks  g).bind (fun zv_3 => ((f_X2_leastFree zv_3).bind (fun zv_4 => (if (8 : Int32) ≤ (f_X2_sizeOf x1 g) then some ((-5 : Int32), g) else (if zv_4 = (-3 : Int32) then some ((-5 : Int32), g) else some ((f_X2_answerOrDown ((f_X2_sizeOf x1 g) + (1 : Int32)) (f_X0_write (f_X2_inodeAt x1 (1 : Int32)) ((f_X2_sizeOf x1 g) + (1 : Int32)).toInt64 (f_X0_write (f_X2_placeAt x1 (f_X2_sizeOf x1 g)) zv_4.toInt64 (f_X0_write (f_X2_dataAt zv_4 (2 : Int32)) x6 (f_X0_write (f_X2_dataAt zv_4 (1 : Int32)) x4 (f_X0_write (f_X2_dataAt zv_4 (0 : Int32)) x2 g)))))), (f_X0_write (f_X2_inodeAt x1 (1 : Int32)) ((f_X2_sizeOf x1 g) + (1 : Int32)).toInt64 (f_X0_write (f_X2_placeAt x1 (f_X2_sizeOf x1 g)) zv_4.toInt64 (f_X0_write (f_X2_dataAt zv_4 (2 : Int32)) x6 (f_X0_write (f_X2_dataAt zv_4 (1 : Int32)) x4 (f_X0_write (f_X2_dataAt zv_4 (0 : Int32)) x2 g)))))))))))) else some ((-2 : Int32), g)))
set_option maxHeartbeats 4000000 in
set_option maxRecDepth 100000 in
theorem c_X2_append (l : Launch) (D : va_G) (cI cJ : ClassId) (h0 q1 q2 q3 sz : Nat) (g : CS) (x1 : Int32) (x2 : Int64) (x4 : Int64) (x6 : Int64) (r : Int32) (g1 : CS) (hf : f_X2_append x1 x2 x4 x6 g = some (r, g1)) : Met l yX2_append wsX2_append { frames := 4, cells := 0, slots := 0, locals := 89 } (gPc D (gT cI cJ) sz (wC h0 q1 q2 q3 cJ g) [.ref h0, .int x1, .long x2, .long x4, .long x6]) (gQi D (gT cI cJ) (va_A (wC h0 q1 q2 q3 cJ g) sz) r (wC h0 q1 q2 q3 cJ g1)) 0 0 (va_A (wC h0 q1 q2 q3 cJ g) sz) := by
  refine gMet (cc := cX2_append) (maxL := 10) (ret := (some .int)) (by decide) rfl ?_ (Nat.le_of_ble_eq_true rfl)
  intro p e0 s m below meth c ls B hr hlk hsz hK hG hl
  have hA : ∀ q : Nat, s.heap.size ≤ q → va_A (wC h0 q1 q2 q3 cJ g) sz q := fun q h => Or.inr (hsz ▸ h)
  have hx := B.1
  have hb := B.2.1
  have hts := B.2.2.2.2
  have hl : lv_has ls 10 [(0, .ref h0), (1, .int x1), (2, .long x2), (4, .long x4), (6, .long x6)] := hl
  generalize va_A (wC h0 q1 q2 q3 cJ g) sz = A at hA hG ⊢
  have hinX0 : ∀ x ∈ wsX00, x ∈ wsX2_append := by decide +kernel
  have hinX2 : ∀ x ∈ wsX20, x ∈ wsX2_append := by decide +kernel
  have m_12 : Cond.fieldLink RX2 12 "BlockMover" "disk" "LBlockMover$Disk;" ∈ wsX2_append := by decide +kernel
  have m_31 : Cond.fieldLink RX2 31 "BlockMover$Disk" "down" "Z" ∈ wsX2_append := by decide +kernel
  unfold f_X2_append at hf
  refine lv_aload_n hx hb dX2_append_0 rfl (lv_at hl 0 rfl) ?_
  refine lv_iload_n hx hb dX2_append_1 rfl (lv_at hl 1 rfl) ?_
  refine lv_iconst (v := 2) hx hb dX2_append_2 (by decide) ?_
  refine gc_Vi hA hK hl.1 hG B (c_X2_isOfKind l D cI cJ h0 q1 q2 q3 _ g x1 (2 : Int32) _ rfl) (cwV 2 hts gX2_append_X2_isOfKind rfl rfl rfl (by decide +kernel) ⟨by decide, by decide⟩) 0 rfl rfl rfl rfl rfl (Nat.le_of_ble_eq_true rfl) dX2_append_3 ⟨Nat.zero_le _, Nat.zero_le _⟩ (fun H locs hG => ?_)
  refine lv_if_ne (tgt := 11) hx hb dX2_append_6 (by decide) (fun cq_1 => ?_) (fun cq_1 => ?_)
  · have hf := ifF cq_1 hf
    refine lv_aload_n hx hb dX2_append_11 rfl (lv_at hl 0 rfl) ?_
    refine g_get hK hG B hinX2 0 rfl rfl 0 (by decide) m_12 rfl dX2_append_12 ?_
    refine g_get hK hG B hinX0 1 rfl rfl 3 (by decide) m_31 rfl dX2_append_15 ?_
    refine lv_if_eq (tgt := 24) hx hb dX2_append_18 (by decide) (fun cq_2 => ?_) (fun cq_2 => ?_)
    · have hf := ifT cq_2 hf
      refine lv_aload_n hx hb dX2_append_24 rfl (lv_at hl 0 rfl) ?_
      refine lv_iload_n hx hb dX2_append_25 rfl (lv_at hl 1 rfl) ?_
      refine gc_Vi hA hK hl.1 hG B (c_X2_sizeOf l D cI cJ h0 q1 q2 q3 _ g x1 _ rfl) (cwV 1 hts gX2_append_X2_sizeOf rfl rfl rfl (by decide +kernel) ⟨by decide, by decide⟩) 0 rfl rfl rfl rfl rfl (Nat.le_of_ble_eq_true rfl) dX2_append_26 ⟨Nat.zero_le _, Nat.zero_le _⟩ (fun H locs hG => ?_)
      refine lv_istore (lv' := [(8, .int (f_X2_sizeOf x1 g)), (0, .ref h0), (1, .int x1), (2, .long x2), (4, .long x4), (6, .long x6)]) hx hb dX2_append_29 hl (by decide) rfl (fun ls hl => ?_)
      refine lv_aload_n hx hb dX2_append_31 rfl (lv_at hl 1 rfl) ?_
      obtain ⟨zv_3, hqzv_3, hf⟩ := ob hf
      refine gc_Vl hA hK hl.1 hG B (c_X2_usedBlocks l D cI cJ h0 q1 q2 q3 _ g  _ hqzv_3) (cwV 0 hts gX2_append_X2_usedBlocks rfl rfl rfl (by decide +kernel) ⟨by decide, by decide⟩) 0 rfl rfl rfl rfl rfl (Nat.le_of_ble_eq_true rfl) dX2_append_32 ⟨Nat.zero_le _, Nat.zero_le _⟩ (fun H locs hG => ?_)
      obtain ⟨zv_4, hqzv_4, hf⟩ := ob hf
      refine gc_Si hA hK hl.1 hG B (c_X2_leastFree l D (gT cI cJ) _ (wC h0 q1 q2 q3 cJ g) zv_3 _ hqzv_4) (va_cwS 1 hts gX2_append_X2_leastFree rfl rfl rfl (by decide +kernel) ⟨by decide, by decide⟩) rfl rfl (Nat.le_of_ble_eq_true rfl) dX2_append_35 ⟨Nat.zero_le _, Nat.zero_le _⟩ (fun H locs hG => ?_)
      refine lv_istore (lv' := [(9, .int zv_4), (8, .int (f_X2_sizeOf x1 g)), (0, .ref h0), (1, .int x1), (2, .long x2), (4, .long x4), (6, .long x6)]) hx hb dX2_append_38 hl (by decide) rfl (fun ls hl => ?_)
      refine lv_iload hx hb dX2_append_40 (lv_at hl 1 rfl) ?_
      refine lv_bipush (v := 8) hx hb dX2_append_42 (by decide) ?_
      refine lv_icmp_ge (tgt := 54) hx hb dX2_append_44 (by decide) (fun cq_5 => ?_) (fun cq_5 => ?_)
      · have hf := ifT cq_5 hf
        refine lv_bipush (v := -5) hx hb dX2_append_54 (by decide) ?_
        have hf := Option.some.inj hf
        obtain ⟨e1, e2⟩ := Prod.mk.inj hf
        subst e2
        exact g_iret hr hlk hK hG B rfl e1 dX2_append_56
      · have hf := ifF cq_5 hf
        refine lv_iload hx hb dX2_append_47 (lv_at hl 0 rfl) ?_
        refine lv_bipush (v := -3) hx hb dX2_append_49 (by decide) ?_
        refine lv_icmp_ne (tgt := 57) hx hb dX2_append_51 (by decide) (fun cq_6 => ?_) (fun cq_6 => ?_)
        · have hf := ifF cq_6 hf
          refine lv_aload_n hx hb dX2_append_57 rfl (lv_at hl 2 rfl) ?_
          refine g_get hK hG B hinX2 0 rfl rfl 0 (by decide) m_12 rfl dX2_append_58 ?_
          refine lv_iload hx hb dX2_append_61 (lv_at hl 0 rfl) ?_
          refine lv_iconst (v := 0) hx hb dX2_append_63 (by decide) ?_
          refine gc_Si hA hK hl.1 hG B (c_X2_dataAt l D (gT cI cJ) _ (wC h0 q1 q2 q3 cJ g) zv_4 (0 : Int32) _ rfl) (va_cwS 2 hts gX2_append_X2_dataAt rfl rfl rfl (by decide +kernel) ⟨by decide, by decide⟩) rfl rfl (Nat.le_of_ble_eq_true rfl) dX2_append_64 ⟨Nat.zero_le _, Nat.zero_le _⟩ (fun H locs hG => ?_)
          refine lv_lload_n hx hb dX2_append_67 rfl (lv_at hl 4 rfl) ?_
          refine gc_Vv hA hK hl.1 hG B (c_X0_write l D cI cJ h0 q1 q2 q3 _ g (f_X2_dataAt zv_4 (0 : Int32)) x2 _ rfl) (cwV 2 hts gX2_append_X0_write rfl rfl rfl (by decide +kernel) ⟨by decide, by decide⟩) 1 rfl rfl rfl rfl rfl (Nat.le_of_ble_eq_true rfl) dX2_append_68 ⟨Nat.zero_le _, Nat.zero_le _⟩ (fun H locs hG => ?_)
          refine lv_aload_n hx hb dX2_append_71 rfl (lv_at hl 2 rfl) ?_
          refine g_get hK hG B hinX2 0 rfl rfl 0 (by decide) m_12 rfl dX2_append_72 ?_
          refine lv_iload hx hb dX2_append_75 (lv_at hl 0 rfl) ?_
          refine lv_iconst (v := 1) hx hb dX2_append_77 (by decide) ?_
          refine gc_Si hA hK hl.1 hG B (c_X2_dataAt l D (gT cI cJ) _ (wC h0 q1 q2 q3 cJ (f_X0_write (f_X2_dataAt zv_4 (0 : Int32)) x2 g)) zv_4 (1 : Int32) _ rfl) (va_cwS 2 hts gX2_append_X2_dataAt rfl rfl rfl (by decide +kernel) ⟨by decide, by decide⟩) rfl rfl (Nat.le_of_ble_eq_true rfl) dX2_append_78 ⟨Nat.zero_le _, Nat.zero_le _⟩ (fun H locs hG => ?_)
          refine lv_lload hx hb dX2_append_81 (lv_at hl 5 rfl) ?_
          refine gc_Vv hA hK hl.1 hG B (c_X0_write l D cI cJ h0 q1 q2 q3 _ (f_X0_write (f_X2_dataAt zv_4 (0 : Int32)) x2 g) (f_X2_dataAt zv_4 (1 : Int32)) x4 _ rfl) (cwV 2 hts gX2_append_X0_write rfl rfl rfl (by decide +kernel) ⟨by decide, by decide⟩) 1 rfl rfl rfl rfl rfl (Nat.le_of_ble_eq_true rfl) dX2_append_83 ⟨Nat.zero_le _, Nat.zero_le _⟩ (fun H locs hG => ?_)
          refine lv_aload_n hx hb dX2_append_86 rfl (lv_at hl 2 rfl) ?_
          refine g_get hK hG B hinX2 0 rfl rfl 0 (by decide) m_12 rfl dX2_append_87 ?_
          refine lv_iload hx hb dX2_append_90 (lv_at hl 0 rfl) ?_
          refine lv_iconst (v := 2) hx hb dX2_append_92 (by decide) ?_
          refine gc_Si hA hK hl.1 hG B (c_X2_dataAt l D (gT cI cJ) _ (wC h0 q1 q2 q3 cJ (f_X0_write (f_X2_dataAt zv_4 (1 : Int32)) x4 (f_X0_write (f_X2_dataAt zv_4 (0 : Int32)) x2 g))) zv_4 (2 : Int32) _ rfl) (va_cwS 2 hts gX2_append_X2_dataAt rfl rfl rfl (by decide +kernel) ⟨by decide, by decide⟩) rfl rfl (Nat.le_of_ble_eq_true rfl) dX2_append_93 ⟨Nat.zero_le _, Nat.zero_le _⟩ (fun H locs hG => ?_)
          refine lv_lload hx hb dX2_append_96 (lv_at hl 6 rfl) ?_
          refine gc_Vv hA hK hl.1 hG B (c_X0_write l D cI cJ h0 q1 q2 q3 _ (f_X0_write (f_X2_dataAt zv_4 (1 : Int32)) x4 (f_X0_write (f_X2_dataAt zv_4 (0 : Int32)) x2 g)) (f_X2_dataAt zv_4 (2 : Int32)) x6 _ rfl) (cwV 2 hts gX2_append_X0_write rfl rfl rfl (by decide +kernel) ⟨by decide, by decide⟩) 1 rfl rfl rfl rfl rfl (Nat.le_of_ble_eq_true rfl) dX2_append_98 ⟨Nat.zero_le _, Nat.zero_le _⟩ (fun H locs hG => ?_)
          refine lv_aload_n hx hb dX2_append_101 rfl (lv_at hl 2 rfl) ?_
          refine g_get hK hG B hinX2 0 rfl rfl 0 (by decide) m_12 rfl dX2_append_102 ?_
          refine lv_iload_n hx hb dX2_append_105 rfl (lv_at hl 3 rfl) ?_
          refine lv_iload hx hb dX2_append_106 (lv_at hl 1 rfl) ?_
          refine gc_Si hA hK hl.1 hG B (c_X2_placeAt l D (gT cI cJ) _ (wC h0 q1 q2 q3 cJ (f_X0_write (f_X2_dataAt zv_4 (2 : Int32)) x6 (f_X0_write (f_X2_dataAt zv_4 (1 : Int32)) x4 (f_X0_write (f_X2_dataAt zv_4 (0 : Int32)) x2 g)))) x1 (f_X2_sizeOf x1 g) _ rfl) (va_cwS 2 hts gX2_append_X2_placeAt rfl rfl rfl (by decide +kernel) ⟨by decide, by decide⟩) rfl rfl (Nat.le_of_ble_eq_true rfl) dX2_append_108 ⟨Nat.zero_le _, Nat.zero_le _⟩ (fun H locs hG => ?_)
          refine lv_iload hx hb dX2_append_111 (lv_at hl 0 rfl) ?_
          refine lv_i2l hx hb dX2_append_113 rfl ?_
          refine gc_Vv hA hK hl.1 hG B (c_X0_write l D cI cJ h0 q1 q2 q3 _ (f_X0_write (f_X2_dataAt zv_4 (2 : Int32)) x6 (f_X0_write (f_X2_dataAt zv_4 (1 : Int32)) x4 (f_X0_write (f_X2_dataAt zv_4 (0 : Int32)) x2 g))) (f_X2_placeAt x1 (f_X2_sizeOf x1 g)) zv_4.toInt64 _ rfl) (cwV 2 hts gX2_append_X0_write rfl rfl rfl (by decide +kernel) ⟨by decide, by decide⟩) 1 rfl rfl rfl rfl rfl (Nat.le_of_ble_eq_true rfl) dX2_append_114 ⟨Nat.zero_le _, Nat.zero_le _⟩ (fun H locs hG => ?_)
          refine lv_aload_n hx hb dX2_append_117 rfl (lv_at hl 2 rfl) ?_
          refine g_get hK hG B hinX2 0 rfl rfl 0 (by decide) m_12 rfl dX2_append_118 ?_
          refine lv_iload_n hx hb dX2_append_121 rfl (lv_at hl 3 rfl) ?_
          refine lv_iconst (v := 1) hx hb dX2_append_122 (by decide) ?_
          refine gc_Si hA hK hl.1 hG B (c_X2_inodeAt l D (gT cI cJ) _ (wC h0 q1 q2 q3 cJ (f_X0_write (f_X2_placeAt x1 (f_X2_sizeOf x1 g)) zv_4.toInt64 (f_X0_write (f_X2_dataAt zv_4 (2 : Int32)) x6 (f_X0_write (f_X2_dataAt zv_4 (1 : Int32)) x4 (f_X0_write (f_X2_dataAt zv_4 (0 : Int32)) x2 g))))) x1 (1 : Int32) _ rfl) (va_cwS 2 hts gX2_append_X2_inodeAt rfl rfl rfl (by decide +kernel) ⟨by decide, by decide⟩) rfl rfl (Nat.le_of_ble_eq_true rfl) dX2_append_123 ⟨Nat.zero_le _, Nat.zero_le _⟩ (fun H locs hG => ?_)
          refine lv_iload hx hb dX2_append_126 (lv_at hl 1 rfl) ?_
          refine lv_iconst (v := 1) hx hb dX2_append_128 (by decide) ?_
          refine lv_iadd hx hb dX2_append_129 ?_
          refine lv_i2l hx hb dX2_append_130 rfl ?_
          refine gc_Vv hA hK hl.1 hG B (c_X0_write l D cI cJ h0 q1 q2 q3 _ (f_X0_write (f_X2_placeAt x1 (f_X2_sizeOf x1 g)) zv_4.toInt64 (f_X0_write (f_X2_dataAt zv_4 (2 : Int32)) x6 (f_X0_write (f_X2_dataAt zv_4 (1 : Int32)) x4 (f_X0_write (f_X2_dataAt zv_4 (0 : Int32)) x2 g)))) (f_X2_inodeAt x1 (1 : Int32)) ((f_X2_sizeOf x1 g) + (1 : Int32)).toInt64 _ rfl) (cwV 2 hts gX2_append_X0_write rfl rfl rfl (by decide +kernel) ⟨by decide, by decide⟩) 1 rfl rfl rfl rfl rfl (Nat.le_of_ble_eq_true rfl) dX2_append_131 ⟨Nat.zero_le _, Nat.zero_le _⟩ (fun H locs hG => ?_)
          refine lv_aload_n hx hb dX2_append_134 rfl (lv_at hl 2 rfl) ?_
          refine lv_iload hx hb dX2_append_135 (lv_at hl 1 rfl) ?_
          refine lv_iconst (v := 1) hx hb dX2_append_137 (by decide) ?_
          refine lv_iadd hx hb dX2_append_138 ?_
          refine gc_Vi hA hK hl.1 hG B (c_X2_answerOrDown l D cI cJ h0 q1 q2 q3 _ (f_X0_write (f_X2_inodeAt x1 (1 : Int32)) ((f_X2_sizeOf x1 g) + (1 : Int32)).toInt64 (f_X0_write (f_X2_placeAt x1 (f_X2_sizeOf x1 g)) zv_4.toInt64 (f_X0_write (f_X2_dataAt zv_4 (2 : Int32)) x6 (f_X0_write (f_X2_dataAt zv_4 (1 : Int32)) x4 (f_X0_write (f_X2_dataAt zv_4 (0 : Int32)) x2 g))))) ((f_X2_sizeOf x1 g) + (1 : Int32)) _ rfl) (cwV 1 hts gX2_append_X2_answerOrDown rfl rfl rfl (by decide +kernel) ⟨by decide, by decide⟩) 0 rfl rfl rfl rfl rfl (Nat.le_of_ble_eq_true rfl) dX2_append_139 ⟨Nat.zero_le _, Nat.zero_le _⟩ (fun H locs hG => ?_)
          have hf := Option.some.inj hf
          obtain ⟨e1, e2⟩ := Prod.mk.inj hf
          subst e2
          exact g_iret hr hlk hK hG B rfl e1 dX2_append_142
        · have hf := ifT cq_6 hf
          refine lv_bipush (v := -5) hx hb dX2_append_54 (by decide) ?_
          have hf := Option.some.inj hf
          obtain ⟨e1, e2⟩ := Prod.mk.inj hf
          subst e2
          exact g_iret hr hlk hK hG B rfl e1 dX2_append_56
    · have hf := ifF cq_2 hf
      refine lv_bipush (v := -2) hx hb dX2_append_21 (by decide) ?_
      have hf := Option.some.inj hf
      obtain ⟨e1, e2⟩ := Prod.mk.inj hf
      subst e2
      exact g_iret hr hlk hK hG B rfl e1 dX2_append_23
  · have hf := ifT cq_1 hf
    refine lv_iconst (v := -1) hx hb dX2_append_9 (by decide) ?_
    have hf := Option.some.inj hf
    obtain ⟨e1, e2⟩ := Prod.mk.inj hf
    subst e2
    exact g_iret hr hlk hK hG B rfl e1 dX2_append_10
def f_X2_isDataOfFile (x1 : Int32) (x2 : Int32) (x3 : Int32) (g : CS) : Int32 := (if (f_X2_isOfKind x1 (2 : Int32) g) = (0 : Int32) then (0 : Int32) else (if (f_X2_isBelow x2 (f_X2_sizeOf x1 g)) = (0 : Int32) then (0 : Int32) else (if (f_X2_isBelow x3 (3 : Int32)) = (0 : Int32) then (0 : Int32) else (1 : Int32))))
set_option maxHeartbeats 4000000 in
set_option maxRecDepth 100000 in
theorem c_X2_isDataOfFile (l : Launch) (D : va_G) (cI cJ : ClassId) (h0 q1 q2 q3 sz : Nat) (g : CS) (x1 : Int32) (x2 : Int32) (x3 : Int32) (r : Int32) (hf : f_X2_isDataOfFile x1 x2 x3 g = r) : Met l yX2_isDataOfFile wsX2_isDataOfFile { frames := 3, cells := 0, slots := 0, locals := 64 } (gPc D (gT cI cJ) sz (wC h0 q1 q2 q3 cJ g) [.ref h0, .int x1, .int x2, .int x3]) (gQi D (gT cI cJ) (va_A (wC h0 q1 q2 q3 cJ g) sz) r (wC h0 q1 q2 q3 cJ g)) 0 0 (va_A (wC h0 q1 q2 q3 cJ g) sz) := by
  refine gMet (cc := cX2_isDataOfFile) (maxL := 4) (ret := (some .boolean)) (by decide) rfl ?_ (Nat.le_of_ble_eq_true rfl)
  intro p e0 s m below meth c ls B hr hlk hsz hK hG hl
  have hA : ∀ q : Nat, s.heap.size ≤ q → va_A (wC h0 q1 q2 q3 cJ g) sz q := fun q h => Or.inr (hsz ▸ h)
  have hx := B.1
  have hb := B.2.1
  have hts := B.2.2.2.2
  have hl : lv_has ls 4 [(0, .ref h0), (1, .int x1), (2, .int x2), (3, .int x3)] := hl
  generalize va_A (wC h0 q1 q2 q3 cJ g) sz = A at hA hG ⊢
  unfold f_X2_isDataOfFile at hf
  refine lv_aload_n hx hb dX2_isDataOfFile_0 rfl (lv_at hl 0 rfl) ?_
  refine lv_iload_n hx hb dX2_isDataOfFile_1 rfl (lv_at hl 1 rfl) ?_
  refine lv_iconst (v := 2) hx hb dX2_isDataOfFile_2 (by decide) ?_
  refine gc_Vi hA hK hl.1 hG B (c_X2_isOfKind l D cI cJ h0 q1 q2 q3 _ g x1 (2 : Int32) _ rfl) (cwV 2 hts gX2_isDataOfFile_X2_isOfKind rfl rfl rfl (by decide +kernel) ⟨by decide, by decide⟩) 0 rfl rfl rfl rfl rfl (Nat.le_of_ble_eq_true rfl) dX2_isDataOfFile_3 ⟨Nat.zero_le _, Nat.zero_le _⟩ (fun H locs hG => ?_)
  refine lv_if_eq (tgt := 33) hx hb dX2_isDataOfFile_6 (by decide) (fun cq_1 => ?_) (fun cq_1 => ?_)
  · have hf := ifT cq_1 hf
    refine lv_iconst (v := 0) hx hb dX2_isDataOfFile_33 (by decide) ?_
    exact g_iret hr hlk hK hG B rfl hf dX2_isDataOfFile_34
  · have hf := ifF cq_1 hf
    refine lv_iload_n hx hb dX2_isDataOfFile_9 rfl (lv_at hl 2 rfl) ?_
    refine lv_aload_n hx hb dX2_isDataOfFile_10 rfl (lv_at hl 0 rfl) ?_
    refine lv_iload_n hx hb dX2_isDataOfFile_11 rfl (lv_at hl 1 rfl) ?_
    refine gc_Vi hA hK hl.1 hG B (c_X2_sizeOf l D cI cJ h0 q1 q2 q3 _ g x1 _ rfl) (cwV 1 hts gX2_isDataOfFile_X2_sizeOf rfl rfl rfl (by decide +kernel) ⟨by decide, by decide⟩) 0 rfl rfl rfl rfl rfl (Nat.le_of_ble_eq_true rfl) dX2_isDataOfFile_12 ⟨Nat.zero_le _, Nat.zero_le _⟩ (fun H locs hG => ?_)
    refine gc_Si hA hK hl.1 hG B (c_X2_isBelow l D (gT cI cJ) _ (wC h0 q1 q2 q3 cJ g) x2 (f_X2_sizeOf x1 g) _ rfl) (va_cwS 2 hts gX2_isDataOfFile_X2_isBelow rfl rfl rfl (by decide +kernel) ⟨by decide, by decide⟩) rfl rfl (Nat.le_of_ble_eq_true rfl) dX2_isDataOfFile_15 ⟨Nat.zero_le _, Nat.zero_le _⟩ (fun H locs hG => ?_)
    refine lv_if_eq (tgt := 33) hx hb dX2_isDataOfFile_18 (by decide) (fun cq_2 => ?_) (fun cq_2 => ?_)
    · have hf := ifT cq_2 hf
      refine lv_iconst (v := 0) hx hb dX2_isDataOfFile_33 (by decide) ?_
      exact g_iret hr hlk hK hG B rfl hf dX2_isDataOfFile_34
    · have hf := ifF cq_2 hf
      refine lv_iload_n hx hb dX2_isDataOfFile_21 rfl (lv_at hl 3 rfl) ?_
      refine lv_iconst (v := 3) hx hb dX2_isDataOfFile_22 (by decide) ?_
      refine gc_Si hA hK hl.1 hG B (c_X2_isBelow l D (gT cI cJ) _ (wC h0 q1 q2 q3 cJ g) x3 (3 : Int32) _ rfl) (va_cwS 2 hts gX2_isDataOfFile_X2_isBelow rfl rfl rfl (by decide +kernel) ⟨by decide, by decide⟩) rfl rfl (Nat.le_of_ble_eq_true rfl) dX2_isDataOfFile_23 ⟨Nat.zero_le _, Nat.zero_le _⟩ (fun H locs hG => ?_)
      refine lv_if_eq (tgt := 33) hx hb dX2_isDataOfFile_26 (by decide) (fun cq_3 => ?_) (fun cq_3 => ?_)
      · have hf := ifT cq_3 hf
        refine lv_iconst (v := 0) hx hb dX2_isDataOfFile_33 (by decide) ?_
        exact g_iret hr hlk hK hG B rfl hf dX2_isDataOfFile_34
      · have hf := ifF cq_3 hf
        refine lv_iconst (v := 1) hx hb dX2_isDataOfFile_29 (by decide) ?_
        refine lv_goto (tgt := 34) hx hb dX2_isDataOfFile_30 (by decide) ?_
        exact g_iret hr hlk hK hG B rfl hf dX2_isDataOfFile_34
def f_X2_put (x1 : Int32) (x2 : Int32) (x3 : Int32) (x4 : Int64) (g : CS) : (Int32 × CS) := (if (f_X2_isDataOfFile x1 x2 x3 g) = (0 : Int32) then ((-1 : Int32), g) else (if (C_down g) = (0 : Int32) then ((f_X2_answerOrDown (1 : Int32) (f_X0_write (f_X2_dataAt (f_X2_placeOf x1 x2 g) x3) x4 g)), (f_X0_write (f_X2_dataAt (f_X2_placeOf x1 x2 g) x3) x4 g)) else ((-2 : Int32), g)))
set_option maxHeartbeats 4000000 in
set_option maxRecDepth 100000 in
theorem c_X2_put (l : Launch) (D : va_G) (cI cJ : ClassId) (h0 q1 q2 q3 sz : Nat) (g : CS) (x1 : Int32) (x2 : Int32) (x3 : Int32) (x4 : Int64) (r : Int32) (g1 : CS) (hf : f_X2_put x1 x2 x3 x4 g = (r, g1)) : Met l yX2_put wsX2_put { frames := 4, cells := 0, slots := 0, locals := 87 } (gPc D (gT cI cJ) sz (wC h0 q1 q2 q3 cJ g) [.ref h0, .int x1, .int x2, .int x3, .long x4]) (gQi D (gT cI cJ) (va_A (wC h0 q1 q2 q3 cJ g) sz) r (wC h0 q1 q2 q3 cJ g1)) 0 0 (va_A (wC h0 q1 q2 q3 cJ g) sz) := by
  refine gMet (cc := cX2_put) (maxL := 6) (ret := (some .int)) (by decide) rfl ?_ (Nat.le_of_ble_eq_true rfl)
  intro p e0 s m below meth c ls B hr hlk hsz hK hG hl
  have hA : ∀ q : Nat, s.heap.size ≤ q → va_A (wC h0 q1 q2 q3 cJ g) sz q := fun q h => Or.inr (hsz ▸ h)
  have hx := B.1
  have hb := B.2.1
  have hts := B.2.2.2.2
  have hl : lv_has ls 6 [(0, .ref h0), (1, .int x1), (2, .int x2), (3, .int x3), (4, .long x4)] := hl
  generalize va_A (wC h0 q1 q2 q3 cJ g) sz = A at hA hG ⊢
  have hinX0 : ∀ x ∈ wsX00, x ∈ wsX2_put := by decide +kernel
  have hinX2 : ∀ x ∈ wsX20, x ∈ wsX2_put := by decide +kernel
  have m_12 : Cond.fieldLink RX2 12 "BlockMover" "disk" "LBlockMover$Disk;" ∈ wsX2_put := by decide +kernel
  have m_31 : Cond.fieldLink RX2 31 "BlockMover$Disk" "down" "Z" ∈ wsX2_put := by decide +kernel
  unfold f_X2_put at hf
  refine lv_aload_n hx hb dX2_put_0 rfl (lv_at hl 0 rfl) ?_
  refine lv_iload_n hx hb dX2_put_1 rfl (lv_at hl 1 rfl) ?_
  refine lv_iload_n hx hb dX2_put_2 rfl (lv_at hl 2 rfl) ?_
  refine lv_iload_n hx hb dX2_put_3 rfl (lv_at hl 3 rfl) ?_
  refine gc_Vi hA hK hl.1 hG B (c_X2_isDataOfFile l D cI cJ h0 q1 q2 q3 _ g x1 x2 x3 _ rfl) (cwV 3 hts gX2_put_X2_isDataOfFile rfl rfl rfl (by decide +kernel) ⟨by decide, by decide⟩) 0 rfl rfl rfl rfl rfl (Nat.le_of_ble_eq_true rfl) dX2_put_4 ⟨Nat.zero_le _, Nat.zero_le _⟩ (fun H locs hG => ?_)
  refine lv_if_ne (tgt := 12) hx hb dX2_put_7 (by decide) (fun cq_1 => ?_) (fun cq_1 => ?_)
  · have hf := ifF cq_1 hf
    refine lv_aload_n hx hb dX2_put_12 rfl (lv_at hl 0 rfl) ?_
    refine g_get hK hG B hinX2 0 rfl rfl 0 (by decide) m_12 rfl dX2_put_13 ?_
    refine g_get hK hG B hinX0 1 rfl rfl 3 (by decide) m_31 rfl dX2_put_16 ?_
    refine lv_if_eq (tgt := 25) hx hb dX2_put_19 (by decide) (fun cq_2 => ?_) (fun cq_2 => ?_)
    · have hf := ifT cq_2 hf
      refine lv_aload_n hx hb dX2_put_25 rfl (lv_at hl 0 rfl) ?_
      refine g_get hK hG B hinX2 0 rfl rfl 0 (by decide) m_12 rfl dX2_put_26 ?_
      refine lv_aload_n hx hb dX2_put_29 rfl (lv_at hl 0 rfl) ?_
      refine lv_iload_n hx hb dX2_put_30 rfl (lv_at hl 1 rfl) ?_
      refine lv_iload_n hx hb dX2_put_31 rfl (lv_at hl 2 rfl) ?_
      refine gc_Vi hA hK hl.1 hG B (c_X2_placeOf l D cI cJ h0 q1 q2 q3 _ g x1 x2 _ rfl) (cwV 2 hts gX2_put_X2_placeOf rfl rfl rfl (by decide +kernel) ⟨by decide, by decide⟩) 0 rfl rfl rfl rfl rfl (Nat.le_of_ble_eq_true rfl) dX2_put_32 ⟨Nat.zero_le _, Nat.zero_le _⟩ (fun H locs hG => ?_)
      refine lv_iload_n hx hb dX2_put_35 rfl (lv_at hl 3 rfl) ?_
      refine gc_Si hA hK hl.1 hG B (c_X2_dataAt l D (gT cI cJ) _ (wC h0 q1 q2 q3 cJ g) (f_X2_placeOf x1 x2 g) x3 _ rfl) (va_cwS 2 hts gX2_put_X2_dataAt rfl rfl rfl (by decide +kernel) ⟨by decide, by decide⟩) rfl rfl (Nat.le_of_ble_eq_true rfl) dX2_put_36 ⟨Nat.zero_le _, Nat.zero_le _⟩ (fun H locs hG => ?_)
      refine lv_lload hx hb dX2_put_39 (lv_at hl 4 rfl) ?_
      refine gc_Vv hA hK hl.1 hG B (c_X0_write l D cI cJ h0 q1 q2 q3 _ g (f_X2_dataAt (f_X2_placeOf x1 x2 g) x3) x4 _ rfl) (cwV 2 hts gX2_put_X0_write rfl rfl rfl (by decide +kernel) ⟨by decide, by decide⟩) 1 rfl rfl rfl rfl rfl (Nat.le_of_ble_eq_true rfl) dX2_put_41 ⟨Nat.zero_le _, Nat.zero_le _⟩ (fun H locs hG => ?_)
      refine lv_aload_n hx hb dX2_put_44 rfl (lv_at hl 0 rfl) ?_
      refine lv_iconst (v := 1) hx hb dX2_put_45 (by decide) ?_
      refine gc_Vi hA hK hl.1 hG B (c_X2_answerOrDown l D cI cJ h0 q1 q2 q3 _ (f_X0_write (f_X2_dataAt (f_X2_placeOf x1 x2 g) x3) x4 g) (1 : Int32) _ rfl) (cwV 1 hts gX2_put_X2_answerOrDown rfl rfl rfl (by decide +kernel) ⟨by decide, by decide⟩) 0 rfl rfl rfl rfl rfl (Nat.le_of_ble_eq_true rfl) dX2_put_46 ⟨Nat.zero_le _, Nat.zero_le _⟩ (fun H locs hG => ?_)
      obtain ⟨e1, e2⟩ := Prod.mk.inj hf
      subst e2
      exact g_iret hr hlk hK hG B rfl e1 dX2_put_49
    · have hf := ifF cq_2 hf
      refine lv_bipush (v := -2) hx hb dX2_put_22 (by decide) ?_
      obtain ⟨e1, e2⟩ := Prod.mk.inj hf
      subst e2
      exact g_iret hr hlk hK hG B rfl e1 dX2_put_24
  · have hf := ifT cq_1 hf
    refine lv_iconst (v := -1) hx hb dX2_put_10 (by decide) ?_
    obtain ⟨e1, e2⟩ := Prod.mk.inj hf
    subst e2
    exact g_iret hr hlk hK hG B rfl e1 dX2_put_11
def f_X2_inodeOfEntry (x0 : Int32) : Int32 := (x0 / (100 : Int32))
set_option maxHeartbeats 4000000 in
set_option maxRecDepth 100000 in
theorem c_X2_inodeOfEntry (l : Launch) (D : va_G) (tys : List (ClassId × FieldType)) (sz : Nat) (w : va_W) (x0 : Int32) (r : Int32) (hf : f_X2_inodeOfEntry x0 = r) : Met l yX2_inodeOfEntry wsX2_inodeOfEntry { frames := 0, cells := 0, slots := 0, locals := 0 } (gPc D tys sz w [.int x0]) (gQi D tys (va_A w sz) r w) 0 0 (va_A w sz) := by
  refine gMet (cc := cX2_inodeOfEntry) (maxL := 1) (ret := (some .int)) (by decide) rfl ?_ (Nat.le_of_ble_eq_true rfl)
  intro p e0 s m below meth c ls B hr hlk hsz hK hG hl
  have hA : ∀ q : Nat, s.heap.size ≤ q → va_A w sz q := fun q h => Or.inr (hsz ▸ h)
  have hx := B.1
  have hb := B.2.1
  have hts := B.2.2.2.2
  have hl : lv_has ls 1 [(0, .int x0)] := hl
  generalize va_A w sz = A at hA hG ⊢
  unfold f_X2_inodeOfEntry at hf
  refine lv_iload_n hx hb dX2_inodeOfEntry_0 rfl (lv_at hl 0 rfl) ?_
  refine lv_bipush (v := 100) hx hb dX2_inodeOfEntry_1 (by decide) ?_
  refine lv_idiv hx hb dX2_inodeOfEntry_3 (by decide) ?_
  exact g_iret hr hlk hK hG B rfl hf dX2_inodeOfEntry_4
def b_X2_entriesOf_4 (y1_4 : Int32) (g : CS) (y2_4 : Int32) (y3_4 : Int32) : Option ((Int32) ⊕ (Int32 × Int32)) := (if (8 : Int32) ≤ y3_4 then some (.inl y2_4) else (if (f_X2_placeOf y1_4 y3_4 g) = (0 : Int32) then some (.inr (y2_4, (y3_4 + (1 : Int32)))) else some (.inr ((y2_4 + (1 : Int32)), (y3_4 + (1 : Int32))))))
def f_X2_entriesOf (x1 : Int32) (g : CS) : Option Int32 := ((itl (fun a : Int32 × Int32 => b_X2_entriesOf_4 x1 g a.1 a.2) 300 ((0 : Int32), (0 : Int32))).bind (fun ev_3 => some ev_3))
set_option maxHeartbeats 4000000 in
set_option maxRecDepth 100000 in
theorem c_X2_entriesOf (l : Launch) (D : va_G) (cI cJ : ClassId) (h0 q1 q2 q3 sz : Nat) (g : CS) (x1 : Int32) (r : Int32) (hf : f_X2_entriesOf x1 g = some r) : Met l yX2_entriesOf wsX2_entriesOf { frames := 3, cells := 0, slots := 0, locals := 64 } (gPc D (gT cI cJ) sz (wC h0 q1 q2 q3 cJ g) [.ref h0, .int x1]) (gQi D (gT cI cJ) (va_A (wC h0 q1 q2 q3 cJ g) sz) r (wC h0 q1 q2 q3 cJ g)) 0 0 (va_A (wC h0 q1 q2 q3 cJ g) sz) := by
  refine gMet (cc := cX2_entriesOf) (maxL := 4) (ret := (some .int)) (by decide) rfl ?_ (Nat.le_of_ble_eq_true rfl)
  intro p e0 s m below meth c ls B hr hlk hsz hK hG hl
  have hA : ∀ q : Nat, s.heap.size ≤ q → va_A (wC h0 q1 q2 q3 cJ g) sz q := fun q h => Or.inr (hsz ▸ h)
  have hx := B.1
  have hb := B.2.1
  have hts := B.2.2.2.2
  have hl : lv_has ls 4 [(0, .ref h0), (1, .int x1)] := hl
  generalize va_A (wC h0 q1 q2 q3 cJ g) sz = A at hA hG ⊢
  have L4 : ∀ (res : (Int32)) (y1_4 : Int32), (∀ (H1 : Heap) (locs1 : List Loc) (ls1 : Array Slot) (e : Int32), res = e → gG D A s.heap (wC h0 q1 q2 q3 cJ g) H1 locs1 → lv_has ls1 4 [(2, .int e)] → W p l e0 { frames := 3, cells := 0, slots := 0, locals := 64 } s m ([.ref h0, .int x1] : List Value).toArray below meth c H1 locs1 0 0 (MQ below (gQi D (gT cI cJ) A r (wC h0 q1 q2 q3 cJ g)) ([.ref h0, .int x1] : List Value).toArray s 0 0 A) (F0 m 28 ls1 [])) → ∀ (n : Nat) (y2_4 : Int32) (y3_4 : Int32) (H : Heap) (locs : List Loc) (ls : Array Slot), gG D A s.heap (wC h0 q1 q2 q3 cJ g) H locs → lv_has ls 4 [(0, .ref h0), (1, .int y1_4), (2, .int y2_4), (3, .int y3_4)] → itl (fun a : Int32 × Int32 => b_X2_entriesOf_4 y1_4 g a.1 a.2) n (y2_4, y3_4) = some res → W p l e0 { frames := 3, cells := 0, slots := 0, locals := 64 } s m ([.ref h0, .int x1] : List Value).toArray below meth c H locs 0 0 (MQ below (gQi D (gT cI cJ) A r (wC h0 q1 q2 q3 cJ g)) ([.ref h0, .int x1] : List Value).toArray s 0 0 A) (F0 m 4 ls []) := by
    intro res y1_4 hKe4 n
    induction n with
    | zero => exact fun y2_4 y3_4 H locs ls hG hl hf => (itl_0 hf).elim
    | succ n ih =>
      intro y2_4 y3_4 H locs ls hG hl hf
      obtain ⟨o, hf, ho4, hn4⟩ := itl_s hf
      have hf : b_X2_entriesOf_4 y1_4 g y2_4 y3_4 = some o := hf
      unfold b_X2_entriesOf_4 at hf
      refine lv_iload_n hx hb dX2_entriesOf_4 rfl (lv_at hl 3 rfl) ?_
      refine lv_bipush (v := 8) hx hb dX2_entriesOf_5 (by decide) ?_
      refine lv_icmp_ge (tgt := 28) hx hb dX2_entriesOf_7 (by decide) (fun cq_1 => ?_) (fun cq_1 => ?_)
      · have hf := ifT cq_1 hf
        have hres := ho4 _ (Option.some.inj hf).symm
        exact hKe4 _ _ _ y2_4 hres.symm hG (lv_sub hl [2] rfl)
      · have hf := ifF cq_1 hf
        refine lv_aload_n hx hb dX2_entriesOf_10 rfl (lv_at hl 0 rfl) ?_
        refine lv_iload_n hx hb dX2_entriesOf_11 rfl (lv_at hl 1 rfl) ?_
        refine lv_iload_n hx hb dX2_entriesOf_12 rfl (lv_at hl 3 rfl) ?_
        refine gc_Vi hA hK hl.1 hG B (c_X2_placeOf l D cI cJ h0 q1 q2 q3 _ g y1_4 y3_4 _ rfl) (cwV 2 hts gX2_entriesOf_X2_placeOf rfl rfl rfl (by decide +kernel) ⟨by decide, by decide⟩) 0 rfl rfl rfl rfl rfl (Nat.le_of_ble_eq_true rfl) dX2_entriesOf_13 ⟨Nat.zero_le _, Nat.zero_le _⟩ (fun H locs hG => ?_)
        refine lv_if_eq (tgt := 22) hx hb dX2_entriesOf_16 (by decide) (fun cq_2 => ?_) (fun cq_2 => ?_)
        · have hf := ifT cq_2 hf
          refine lv_iinc (v := (y3_4 + (1 : Int32))) (lv' := [(3, .int (y3_4 + (1 : Int32))), (0, .ref h0), (1, .int y1_4), (2, .int y2_4)]) hx hb dX2_entriesOf_22 hl (k := 3) rfl rfl (by decide) rfl (fun ls hl => ?_)
          refine lv_goto (tgt := 4) hx hb dX2_entriesOf_25 (by decide) ?_
          have hn := hn4 _ (Option.some.inj hf).symm
          exact ih y2_4 (y3_4 + (1 : Int32)) _ _ _ hG (lv_sub hl [1, 2, 3, 0] rfl) hn
        · have hf := ifF cq_2 hf
          refine lv_iinc (v := (y2_4 + (1 : Int32))) (lv' := [(2, .int (y2_4 + (1 : Int32))), (0, .ref h0), (1, .int y1_4), (3, .int y3_4)]) hx hb dX2_entriesOf_19 hl (k := 2) rfl rfl (by decide) rfl (fun ls hl => ?_)
          refine lv_iinc (v := (y3_4 + (1 : Int32))) (lv' := [(3, .int (y3_4 + (1 : Int32))), (2, .int (y2_4 + (1 : Int32))), (0, .ref h0), (1, .int y1_4)]) hx hb dX2_entriesOf_22 hl (k := 3) rfl rfl (by decide) rfl (fun ls hl => ?_)
          refine lv_goto (tgt := 4) hx hb dX2_entriesOf_25 (by decide) ?_
          have hn := hn4 _ (Option.some.inj hf).symm
          exact ih (y2_4 + (1 : Int32)) (y3_4 + (1 : Int32)) _ _ _ hG (lv_sub hl [2, 3, 1, 0] rfl) hn
  unfold f_X2_entriesOf at hf
  refine lv_iconst (v := 0) hx hb dX2_entriesOf_0 (by decide) ?_
  refine lv_istore_n (lv' := [(2, .int (0 : Int32)), (0, .ref h0), (1, .int x1)]) hx hb dX2_entriesOf_1 rfl hl (by decide) rfl (fun ls hl => ?_)
  refine lv_iconst (v := 0) hx hb dX2_entriesOf_2 (by decide) ?_
  refine lv_istore_n (lv' := [(3, .int (0 : Int32)), (2, .int (0 : Int32)), (0, .ref h0), (1, .int x1)]) hx hb dX2_entriesOf_3 rfl hl (by decide) rfl (fun ls hl => ?_)
  obtain ⟨zv_3, hizv_3, hf⟩ := ob hf
  refine L4 zv_3 x1 (fun H locs ls ev_3 hres hG hl => ?_) 300 (0 : Int32) (0 : Int32) _ _ _ hG (lv_sub hl [2, 3, 1, 0] rfl) hizv_3
  have hres := hres.symm
  subst hres
  refine lv_iload_n hx hb dX2_entriesOf_28 rfl (lv_at hl 0 rfl) ?_
  have hf := Option.some.inj hf
  exact g_iret hr hlk hK hG B rfl hf dX2_entriesOf_29
def f_X2_remove (x1 : Int32) (x2 : Int32) (g : CS) : Option (Int32 × CS) := (if (f_X2_isOfKind x1 (1 : Int32) g) = (0 : Int32) then some ((-1 : Int32), g) else (if (f_X2_isName x2) = (0 : Int32) then some ((-1 : Int32), g) else (if (C_down g) = (0 : Int32) then ((f_X2_placeOfName x1 x2 g).bind (fun zv_4 => (if zv_4 = (-3 : Int32) then some ((-3 : Int32), g) else (if (f_X2_kindOf (f_X2_inodeOfEntry (f_X2_placeOf x1 zv_4 g)) g) = (1 : Int32) then ((f_X2_entriesOf (f_X2_inodeOfEntry (f_X2_placeOf x1 zv_4 g)) g).bind (fun zv_7 => (if zv_7 ≤ (0 : Int32) then some ((f_X2_answerOrDown (f_X2_inodeOfEntry (f_X2_placeOf x1 zv_4 g)) (f_X0_write (f_X2_inodeAt (f_X2_inodeOfEntry (f_X2_placeOf x1 zv_4 g)) (0 : Int32)) (0 : Int64) (f_X0_write (f_X2_placeAt x1 zv_4) (0 : Int64) g))), (f_X0_write (f_X2_inodeAt (f_X2_inodeOfEntry (f_X2_placeOf x1 zv_4 g)) (0 : Int32)) (0 : Int64) (f_X0_write (f_X2_placeAt x1 zv_4) (0 : Int64) g))) else some ((-6 : Int32), g)))) else some ((f_X2_answerOrDown (f_X2_inodeOfEntry (f_X2_placeOf x1 zv_4 g)) (f_X0_write (f_X2_inodeAt (f_X2_inodeOfEntry (f_X2_placeOf x1 zv_4 g)) (0 : Int32)) (0 : Int64) (f_X0_write (f_X2_placeAt x1 zv_4) (0 : Int64) g))), (f_X0_write (f_X2_inodeAt (f_X2_inodeOfEntry (f_X2_placeOf x1 zv_4 g)) (0 : Int32)) (0 : Int64) (f_X0_write (f_X2_placeAt x1 zv_4) (0 : Int64) g))))))) else some ((-2 : Int32), g))))
set_option maxHeartbeats 4000000 in
set_option maxRecDepth 100000 in
theorem c_X2_remove (l : Launch) (D : va_G) (cI cJ : ClassId) (h0 q1 q2 q3 sz : Nat) (g : CS) (x1 : Int32) (x2 : Int32) (r : Int32) (g1 : CS) (hf : f_X2_remove x1 x2 g = some (r, g1)) : Met l yX2_remove wsX2_remove { frames := 4, cells := 0, slots := 0, locals := 87 } (gPc D (gT cI cJ) sz (wC h0 q1 q2 q3 cJ g) [.ref h0, .int x1, .int x2]) (gQi D (gT cI cJ) (va_A (wC h0 q1 q2 q3 cJ g) sz) r (wC h0 q1 q2 q3 cJ g1)) 0 0 (va_A (wC h0 q1 q2 q3 cJ g) sz) := by
  refine gMet (cc := cX2_remove) (maxL := 5) (ret := (some .int)) (by decide) rfl ?_ (Nat.le_of_ble_eq_true rfl)
  intro p e0 s m below meth c ls B hr hlk hsz hK hG hl
  have hA : ∀ q : Nat, s.heap.size ≤ q → va_A (wC h0 q1 q2 q3 cJ g) sz q := fun q h => Or.inr (hsz ▸ h)
  have hx := B.1
  have hb := B.2.1
  have hts := B.2.2.2.2
  have hl : lv_has ls 5 [(0, .ref h0), (1, .int x1), (2, .int x2)] := hl
  generalize va_A (wC h0 q1 q2 q3 cJ g) sz = A at hA hG ⊢
  have hinX0 : ∀ x ∈ wsX00, x ∈ wsX2_remove := by decide +kernel
  have hinX2 : ∀ x ∈ wsX20, x ∈ wsX2_remove := by decide +kernel
  have m_12 : Cond.fieldLink RX2 12 "BlockMover" "disk" "LBlockMover$Disk;" ∈ wsX2_remove := by decide +kernel
  have m_31 : Cond.fieldLink RX2 31 "BlockMover$Disk" "down" "Z" ∈ wsX2_remove := by decide +kernel
  unfold f_X2_remove at hf
  refine lv_aload_n hx hb dX2_remove_0 rfl (lv_at hl 0 rfl) ?_
  refine lv_iload_n hx hb dX2_remove_1 rfl (lv_at hl 1 rfl) ?_
  refine lv_iconst (v := 1) hx hb dX2_remove_2 (by decide) ?_
  refine gc_Vi hA hK hl.1 hG B (c_X2_isOfKind l D cI cJ h0 q1 q2 q3 _ g x1 (1 : Int32) _ rfl) (cwV 2 hts gX2_remove_X2_isOfKind rfl rfl rfl (by decide +kernel) ⟨by decide, by decide⟩) 0 rfl rfl rfl rfl rfl (Nat.le_of_ble_eq_true rfl) dX2_remove_3 ⟨Nat.zero_le _, Nat.zero_le _⟩ (fun H locs hG => ?_)
  refine lv_if_eq (tgt := 16) hx hb dX2_remove_6 (by decide) (fun cq_1 => ?_) (fun cq_1 => ?_)
  · have hf := ifT cq_1 hf
    refine lv_iconst (v := -1) hx hb dX2_remove_16 (by decide) ?_
    have hf := Option.some.inj hf
    obtain ⟨e1, e2⟩ := Prod.mk.inj hf
    subst e2
    exact g_iret hr hlk hK hG B rfl e1 dX2_remove_17
  · have hf := ifF cq_1 hf
    refine lv_iload_n hx hb dX2_remove_9 rfl (lv_at hl 2 rfl) ?_
    refine gc_Si hA hK hl.1 hG B (c_X2_isName l D (gT cI cJ) _ (wC h0 q1 q2 q3 cJ g) x2 _ rfl) (va_cwS 1 hts gX2_remove_X2_isName rfl rfl rfl (by decide +kernel) ⟨by decide, by decide⟩) rfl rfl (Nat.le_of_ble_eq_true rfl) dX2_remove_10 ⟨Nat.zero_le _, Nat.zero_le _⟩ (fun H locs hG => ?_)
    refine lv_if_ne (tgt := 18) hx hb dX2_remove_13 (by decide) (fun cq_2 => ?_) (fun cq_2 => ?_)
    · have hf := ifF cq_2 hf
      refine lv_aload_n hx hb dX2_remove_18 rfl (lv_at hl 0 rfl) ?_
      refine g_get hK hG B hinX2 0 rfl rfl 0 (by decide) m_12 rfl dX2_remove_19 ?_
      refine g_get hK hG B hinX0 1 rfl rfl 3 (by decide) m_31 rfl dX2_remove_22 ?_
      refine lv_if_eq (tgt := 31) hx hb dX2_remove_25 (by decide) (fun cq_3 => ?_) (fun cq_3 => ?_)
      · have hf := ifT cq_3 hf
        refine lv_aload_n hx hb dX2_remove_31 rfl (lv_at hl 0 rfl) ?_
        refine lv_iload_n hx hb dX2_remove_32 rfl (lv_at hl 1 rfl) ?_
        refine lv_iload_n hx hb dX2_remove_33 rfl (lv_at hl 2 rfl) ?_
        obtain ⟨zv_4, hqzv_4, hf⟩ := ob hf
        refine gc_Vi hA hK hl.1 hG B (c_X2_placeOfName l D cI cJ h0 q1 q2 q3 _ g x1 x2 _ hqzv_4) (cwV 2 hts gX2_remove_X2_placeOfName rfl rfl rfl (by decide +kernel) ⟨by decide, by decide⟩) 0 rfl rfl rfl rfl rfl (Nat.le_of_ble_eq_true rfl) dX2_remove_34 ⟨Nat.zero_le _, Nat.zero_le _⟩ (fun H locs hG => ?_)
        refine lv_istore_n (lv' := [(3, .int zv_4), (0, .ref h0), (1, .int x1), (2, .int x2)]) hx hb dX2_remove_37 rfl hl (by decide) rfl (fun ls hl => ?_)
        refine lv_iload_n hx hb dX2_remove_38 rfl (lv_at hl 0 rfl) ?_
        refine lv_bipush (v := -3) hx hb dX2_remove_39 (by decide) ?_
        refine lv_icmp_ne (tgt := 47) hx hb dX2_remove_41 (by decide) (fun cq_5 => ?_) (fun cq_5 => ?_)
        · have hf := ifF cq_5 hf
          refine lv_aload_n hx hb dX2_remove_47 rfl (lv_at hl 1 rfl) ?_
          refine lv_iload_n hx hb dX2_remove_48 rfl (lv_at hl 2 rfl) ?_
          refine lv_iload_n hx hb dX2_remove_49 rfl (lv_at hl 0 rfl) ?_
          refine gc_Vi hA hK hl.1 hG B (c_X2_placeOf l D cI cJ h0 q1 q2 q3 _ g x1 zv_4 _ rfl) (cwV 2 hts gX2_remove_X2_placeOf rfl rfl rfl (by decide +kernel) ⟨by decide, by decide⟩) 0 rfl rfl rfl rfl rfl (Nat.le_of_ble_eq_true rfl) dX2_remove_50 ⟨Nat.zero_le _, Nat.zero_le _⟩ (fun H locs hG => ?_)
          refine gc_Si hA hK hl.1 hG B (c_X2_inodeOfEntry l D (gT cI cJ) _ (wC h0 q1 q2 q3 cJ g) (f_X2_placeOf x1 zv_4 g) _ rfl) (va_cwS 1 hts gX2_remove_X2_inodeOfEntry rfl rfl rfl (by decide +kernel) ⟨by decide, by decide⟩) rfl rfl (Nat.le_of_ble_eq_true rfl) dX2_remove_53 ⟨Nat.zero_le _, Nat.zero_le _⟩ (fun H locs hG => ?_)
          refine lv_istore (lv' := [(4, .int (f_X2_inodeOfEntry (f_X2_placeOf x1 zv_4 g))), (3, .int zv_4), (0, .ref h0), (1, .int x1), (2, .int x2)]) hx hb dX2_remove_56 hl (by decide) rfl (fun ls hl => ?_)
          refine lv_aload_n hx hb dX2_remove_58 rfl (lv_at hl 2 rfl) ?_
          refine lv_iload hx hb dX2_remove_59 (lv_at hl 0 rfl) ?_
          refine gc_Vi hA hK hl.1 hG B (c_X2_kindOf l D cI cJ h0 q1 q2 q3 _ g (f_X2_inodeOfEntry (f_X2_placeOf x1 zv_4 g)) _ rfl) (cwV 1 hts gX2_remove_X2_kindOf rfl rfl rfl (by decide +kernel) ⟨by decide, by decide⟩) 0 rfl rfl rfl rfl rfl (Nat.le_of_ble_eq_true rfl) dX2_remove_61 ⟨Nat.zero_le _, Nat.zero_le _⟩ (fun H locs hG => ?_)
          refine lv_iconst (v := 1) hx hb dX2_remove_64 (by decide) ?_
          refine lv_icmp_ne (tgt := 80) hx hb dX2_remove_65 (by decide) (fun cq_6 => ?_) (fun cq_6 => ?_)
          · have hf := ifF cq_6 hf
            refine lv_aload_n hx hb dX2_remove_80 rfl (lv_at hl 2 rfl) ?_
            refine g_get hK hG B hinX2 0 rfl rfl 0 (by decide) m_12 rfl dX2_remove_81 ?_
            refine lv_iload_n hx hb dX2_remove_84 rfl (lv_at hl 3 rfl) ?_
            refine lv_iload_n hx hb dX2_remove_85 rfl (lv_at hl 1 rfl) ?_
            refine gc_Si hA hK hl.1 hG B (c_X2_placeAt l D (gT cI cJ) _ (wC h0 q1 q2 q3 cJ g) x1 zv_4 _ rfl) (va_cwS 2 hts gX2_remove_X2_placeAt rfl rfl rfl (by decide +kernel) ⟨by decide, by decide⟩) rfl rfl (Nat.le_of_ble_eq_true rfl) dX2_remove_86 ⟨Nat.zero_le _, Nat.zero_le _⟩ (fun H locs hG => ?_)
            refine lv_lconst (v := 0) hx hb dX2_remove_89 (by decide) ?_
            refine gc_Vv hA hK hl.1 hG B (c_X0_write l D cI cJ h0 q1 q2 q3 _ g (f_X2_placeAt x1 zv_4) (0 : Int64) _ rfl) (cwV 2 hts gX2_remove_X0_write rfl rfl rfl (by decide +kernel) ⟨by decide, by decide⟩) 1 rfl rfl rfl rfl rfl (Nat.le_of_ble_eq_true rfl) dX2_remove_90 ⟨Nat.zero_le _, Nat.zero_le _⟩ (fun H locs hG => ?_)
            refine lv_aload_n hx hb dX2_remove_93 rfl (lv_at hl 2 rfl) ?_
            refine g_get hK hG B hinX2 0 rfl rfl 0 (by decide) m_12 rfl dX2_remove_94 ?_
            refine lv_iload hx hb dX2_remove_97 (lv_at hl 0 rfl) ?_
            refine lv_iconst (v := 0) hx hb dX2_remove_99 (by decide) ?_
            refine gc_Si hA hK hl.1 hG B (c_X2_inodeAt l D (gT cI cJ) _ (wC h0 q1 q2 q3 cJ (f_X0_write (f_X2_placeAt x1 zv_4) (0 : Int64) g)) (f_X2_inodeOfEntry (f_X2_placeOf x1 zv_4 g)) (0 : Int32) _ rfl) (va_cwS 2 hts gX2_remove_X2_inodeAt rfl rfl rfl (by decide +kernel) ⟨by decide, by decide⟩) rfl rfl (Nat.le_of_ble_eq_true rfl) dX2_remove_100 ⟨Nat.zero_le _, Nat.zero_le _⟩ (fun H locs hG => ?_)
            refine lv_lconst (v := 0) hx hb dX2_remove_103 (by decide) ?_
            refine gc_Vv hA hK hl.1 hG B (c_X0_write l D cI cJ h0 q1 q2 q3 _ (f_X0_write (f_X2_placeAt x1 zv_4) (0 : Int64) g) (f_X2_inodeAt (f_X2_inodeOfEntry (f_X2_placeOf x1 zv_4 g)) (0 : Int32)) (0 : Int64) _ rfl) (cwV 2 hts gX2_remove_X0_write rfl rfl rfl (by decide +kernel) ⟨by decide, by decide⟩) 1 rfl rfl rfl rfl rfl (Nat.le_of_ble_eq_true rfl) dX2_remove_104 ⟨Nat.zero_le _, Nat.zero_le _⟩ (fun H locs hG => ?_)
            refine lv_aload_n hx hb dX2_remove_107 rfl (lv_at hl 2 rfl) ?_
            refine lv_iload hx hb dX2_remove_108 (lv_at hl 0 rfl) ?_
            refine gc_Vi hA hK hl.1 hG B (c_X2_answerOrDown l D cI cJ h0 q1 q2 q3 _ (f_X0_write (f_X2_inodeAt (f_X2_inodeOfEntry (f_X2_placeOf x1 zv_4 g)) (0 : Int32)) (0 : Int64) (f_X0_write (f_X2_placeAt x1 zv_4) (0 : Int64) g)) (f_X2_inodeOfEntry (f_X2_placeOf x1 zv_4 g)) _ rfl) (cwV 1 hts gX2_remove_X2_answerOrDown rfl rfl rfl (by decide +kernel) ⟨by decide, by decide⟩) 0 rfl rfl rfl rfl rfl (Nat.le_of_ble_eq_true rfl) dX2_remove_110 ⟨Nat.zero_le _, Nat.zero_le _⟩ (fun H locs hG => ?_)
            have hf := Option.some.inj hf
            obtain ⟨e1, e2⟩ := Prod.mk.inj hf
            subst e2
            exact g_iret hr hlk hK hG B rfl e1 dX2_remove_113
          · have hf := ifT cq_6 hf
            refine lv_aload_n hx hb dX2_remove_68 rfl (lv_at hl 2 rfl) ?_
            refine lv_iload hx hb dX2_remove_69 (lv_at hl 0 rfl) ?_
            obtain ⟨zv_7, hqzv_7, hf⟩ := ob hf
            refine gc_Vi hA hK hl.1 hG B (c_X2_entriesOf l D cI cJ h0 q1 q2 q3 _ g (f_X2_inodeOfEntry (f_X2_placeOf x1 zv_4 g)) _ hqzv_7) (cwV 1 hts gX2_remove_X2_entriesOf rfl rfl rfl (by decide +kernel) ⟨by decide, by decide⟩) 0 rfl rfl rfl rfl rfl (Nat.le_of_ble_eq_true rfl) dX2_remove_71 ⟨Nat.zero_le _, Nat.zero_le _⟩ (fun H locs hG => ?_)
            refine lv_if_le (tgt := 80) hx hb dX2_remove_74 (by decide) (fun cq_8 => ?_) (fun cq_8 => ?_)
            · have hf := ifT cq_8 hf
              refine lv_aload_n hx hb dX2_remove_80 rfl (lv_at hl 2 rfl) ?_
              refine g_get hK hG B hinX2 0 rfl rfl 0 (by decide) m_12 rfl dX2_remove_81 ?_
              refine lv_iload_n hx hb dX2_remove_84 rfl (lv_at hl 3 rfl) ?_
              refine lv_iload_n hx hb dX2_remove_85 rfl (lv_at hl 1 rfl) ?_
              refine gc_Si hA hK hl.1 hG B (c_X2_placeAt l D (gT cI cJ) _ (wC h0 q1 q2 q3 cJ g) x1 zv_4 _ rfl) (va_cwS 2 hts gX2_remove_X2_placeAt rfl rfl rfl (by decide +kernel) ⟨by decide, by decide⟩) rfl rfl (Nat.le_of_ble_eq_true rfl) dX2_remove_86 ⟨Nat.zero_le _, Nat.zero_le _⟩ (fun H locs hG => ?_)
              refine lv_lconst (v := 0) hx hb dX2_remove_89 (by decide) ?_
              refine gc_Vv hA hK hl.1 hG B (c_X0_write l D cI cJ h0 q1 q2 q3 _ g (f_X2_placeAt x1 zv_4) (0 : Int64) _ rfl) (cwV 2 hts gX2_remove_X0_write rfl rfl rfl (by decide +kernel) ⟨by decide, by decide⟩) 1 rfl rfl rfl rfl rfl (Nat.le_of_ble_eq_true rfl) dX2_remove_90 ⟨Nat.zero_le _, Nat.zero_le _⟩ (fun H locs hG => ?_)
              refine lv_aload_n hx hb dX2_remove_93 rfl (lv_at hl 2 rfl) ?_
              refine g_get hK hG B hinX2 0 rfl rfl 0 (by decide) m_12 rfl dX2_remove_94 ?_
              refine lv_iload hx hb dX2_remove_97 (lv_at hl 0 rfl) ?_
              refine lv_iconst (v := 0) hx hb dX2_remove_99 (by decide) ?_
              refine gc_Si hA hK hl.1 hG B (c_X2_inodeAt l D (gT cI cJ) _ (wC h0 q1 q2 q3 cJ (f_X0_write (f_X2_placeAt x1 zv_4) (0 : Int64) g)) (f_X2_inodeOfEntry (f_X2_placeOf x1 zv_4 g)) (0 : Int32) _ rfl) (va_cwS 2 hts gX2_remove_X2_inodeAt rfl rfl rfl (by decide +kernel) ⟨by decide, by decide⟩) rfl rfl (Nat.le_of_ble_eq_true rfl) dX2_remove_100 ⟨Nat.zero_le _, Nat.zero_le _⟩ (fun H locs hG => ?_)
              refine lv_lconst (v := 0) hx hb dX2_remove_103 (by decide) ?_
              refine gc_Vv hA hK hl.1 hG B (c_X0_write l D cI cJ h0 q1 q2 q3 _ (f_X0_write (f_X2_placeAt x1 zv_4) (0 : Int64) g) (f_X2_inodeAt (f_X2_inodeOfEntry (f_X2_placeOf x1 zv_4 g)) (0 : Int32)) (0 : Int64) _ rfl) (cwV 2 hts gX2_remove_X0_write rfl rfl rfl (by decide +kernel) ⟨by decide, by decide⟩) 1 rfl rfl rfl rfl rfl (Nat.le_of_ble_eq_true rfl) dX2_remove_104 ⟨Nat.zero_le _, Nat.zero_le _⟩ (fun H locs hG => ?_)
              refine lv_aload_n hx hb dX2_remove_107 rfl (lv_at hl 2 rfl) ?_
              refine lv_iload hx hb dX2_remove_108 (lv_at hl 0 rfl) ?_
              refine gc_Vi hA hK hl.1 hG B (c_X2_answerOrDown l D cI cJ h0 q1 q2 q3 _ (f_X0_write (f_X2_inodeAt (f_X2_inodeOfEntry (f_X2_placeOf x1 zv_4 g)) (0 : Int32)) (0 : Int64) (f_X0_write (f_X2_placeAt x1 zv_4) (0 : Int64) g)) (f_X2_inodeOfEntry (f_X2_placeOf x1 zv_4 g)) _ rfl) (cwV 1 hts gX2_remove_X2_answerOrDown rfl rfl rfl (by decide +kernel) ⟨by decide, by decide⟩) 0 rfl rfl rfl rfl rfl (Nat.le_of_ble_eq_true rfl) dX2_remove_110 ⟨Nat.zero_le _, Nat.zero_le _⟩ (fun H locs hG => ?_)
              have hf := Option.some.inj hf
              obtain ⟨e1, e2⟩ := Prod.mk.inj hf
              subst e2
              exact g_iret hr hlk hK hG B rfl e1 dX2_remove_113
            · have hf := ifF cq_8 hf
              refine lv_bipush (v := -6) hx hb dX2_remove_77 (by decide) ?_
              have hf := Option.some.inj hf
              obtain ⟨e1, e2⟩ := Prod.mk.inj hf
              subst e2
              exact g_iret hr hlk hK hG B rfl e1 dX2_remove_79
        · have hf := ifT cq_5 hf
          refine lv_bipush (v := -3) hx hb dX2_remove_44 (by decide) ?_
          have hf := Option.some.inj hf
          obtain ⟨e1, e2⟩ := Prod.mk.inj hf
          subst e2
          exact g_iret hr hlk hK hG B rfl e1 dX2_remove_46
      · have hf := ifF cq_3 hf
        refine lv_bipush (v := -2) hx hb dX2_remove_28 (by decide) ?_
        have hf := Option.some.inj hf
        obtain ⟨e1, e2⟩ := Prod.mk.inj hf
        subst e2
        exact g_iret hr hlk hK hG B rfl e1 dX2_remove_30
    · have hf := ifT cq_2 hf
      refine lv_iconst (v := -1) hx hb dX2_remove_16 (by decide) ?_
      have hf := Option.some.inj hf
      obtain ⟨e1, e2⟩ := Prod.mk.inj hf
      subst e2
      exact g_iret hr hlk hK hG B rfl e1 dX2_remove_17
def b_X2_hasEntryOf_2 (y1_2 : Int32) (y2_2 : Int32) (g : CS) (y3_2 : Int32) : Option (((Int32) ⊕ (Unit)) ⊕ (Int32)) := (if (8 : Int32) ≤ y3_2 then some (.inl (.inr ())) else (if (f_X2_placeOf y1_2 y3_2 g) = (0 : Int32) then some (.inr (y3_2 + (1 : Int32))) else (if (f_X2_inodeOfEntry (f_X2_placeOf y1_2 y3_2 g)) = y2_2 then some (.inl (.inl (1 : Int32))) else some (.inr (y3_2 + (1 : Int32))))))
def f_X2_hasEntryOf (x1 : Int32) (x2 : Int32) (g : CS) : Option Int32 := ((itl (fun a : Int32 => b_X2_hasEntryOf_2 x1 x2 g a) 300 (0 : Int32)).bind (fun zv_4 => Sum.elim (fun v => some v) (fun ev_4 => some (0 : Int32)) zv_4))
set_option maxHeartbeats 4000000 in
set_option maxRecDepth 100000 in
theorem c_X2_hasEntryOf (l : Launch) (D : va_G) (cI cJ : ClassId) (h0 q1 q2 q3 sz : Nat) (g : CS) (x1 : Int32) (x2 : Int32) (r : Int32) (hf : f_X2_hasEntryOf x1 x2 g = some r) : Met l yX2_hasEntryOf wsX2_hasEntryOf { frames := 3, cells := 0, slots := 0, locals := 64 } (gPc D (gT cI cJ) sz (wC h0 q1 q2 q3 cJ g) [.ref h0, .int x1, .int x2]) (gQi D (gT cI cJ) (va_A (wC h0 q1 q2 q3 cJ g) sz) r (wC h0 q1 q2 q3 cJ g)) 0 0 (va_A (wC h0 q1 q2 q3 cJ g) sz) := by
  refine gMet (cc := cX2_hasEntryOf) (maxL := 5) (ret := (some .boolean)) (by decide) rfl ?_ (Nat.le_of_ble_eq_true rfl)
  intro p e0 s m below meth c ls B hr hlk hsz hK hG hl
  have hA : ∀ q : Nat, s.heap.size ≤ q → va_A (wC h0 q1 q2 q3 cJ g) sz q := fun q h => Or.inr (hsz ▸ h)
  have hx := B.1
  have hb := B.2.1
  have hts := B.2.2.2.2
  have hl : lv_has ls 5 [(0, .ref h0), (1, .int x1), (2, .int x2)] := hl
  generalize va_A (wC h0 q1 q2 q3 cJ g) sz = A at hA hG ⊢
  have L2 : ∀ (res : ((Int32) ⊕ (Unit))) (y1_2 : Int32) (y2_2 : Int32), (∀ v, res = .inl v → v = r) → (∀ (H1 : Heap) (locs1 : List Loc) (ls1 : Array Slot) (e : Unit), res = .inr e → gG D A s.heap (wC h0 q1 q2 q3 cJ g) H1 locs1 → lv_has ls1 5 [] → W p l e0 { frames := 3, cells := 0, slots := 0, locals := 64 } s m ([.ref h0, .int x1, .int x2] : List Value).toArray below meth c H1 locs1 0 0 (MQ below (gQi D (gT cI cJ) A r (wC h0 q1 q2 q3 cJ g)) ([.ref h0, .int x1, .int x2] : List Value).toArray s 0 0 A) (F0 m 38 ls1 [])) → ∀ (n : Nat) (y3_2 : Int32) (H : Heap) (locs : List Loc) (ls : Array Slot), gG D A s.heap (wC h0 q1 q2 q3 cJ g) H locs → lv_has ls 5 [(0, .ref h0), (1, .int y1_2), (2, .int y2_2), (3, .int y3_2)] → itl (fun a : Int32 => b_X2_hasEntryOf_2 y1_2 y2_2 g a) n y3_2 = some res → W p l e0 { frames := 3, cells := 0, slots := 0, locals := 64 } s m ([.ref h0, .int x1, .int x2] : List Value).toArray below meth c H locs 0 0 (MQ below (gQi D (gT cI cJ) A r (wC h0 q1 q2 q3 cJ g)) ([.ref h0, .int x1, .int x2] : List Value).toArray s 0 0 A) (F0 m 2 ls []) := by
    intro res y1_2 y2_2 hKr2 hKe2 n
    induction n with
    | zero => exact fun y3_2 H locs ls hG hl hf => (itl_0 hf).elim
    | succ n ih =>
      intro y3_2 H locs ls hG hl hf
      obtain ⟨o, hf, ho2, hn2⟩ := itl_s hf
      have hf : b_X2_hasEntryOf_2 y1_2 y2_2 g y3_2 = some o := hf
      unfold b_X2_hasEntryOf_2 at hf
      refine lv_iload_n hx hb dX2_hasEntryOf_2 rfl (lv_at hl 3 rfl) ?_
      refine lv_bipush (v := 8) hx hb dX2_hasEntryOf_3 (by decide) ?_
      refine lv_icmp_ge (tgt := 38) hx hb dX2_hasEntryOf_5 (by decide) (fun cq_1 => ?_) (fun cq_1 => ?_)
      · have hf := ifT cq_1 hf
        have hres := ho2 _ (Option.some.inj hf).symm
        exact hKe2 _ _ _ () hres.symm hG (lv_sub hl [] rfl)
      · have hf := ifF cq_1 hf
        refine lv_aload_n hx hb dX2_hasEntryOf_8 rfl (lv_at hl 0 rfl) ?_
        refine lv_iload_n hx hb dX2_hasEntryOf_9 rfl (lv_at hl 1 rfl) ?_
        refine lv_iload_n hx hb dX2_hasEntryOf_10 rfl (lv_at hl 3 rfl) ?_
        refine gc_Vi hA hK hl.1 hG B (c_X2_placeOf l D cI cJ h0 q1 q2 q3 _ g y1_2 y3_2 _ rfl) (cwV 2 hts gX2_hasEntryOf_X2_placeOf rfl rfl rfl (by decide +kernel) ⟨by decide, by decide⟩) 0 rfl rfl rfl rfl rfl (Nat.le_of_ble_eq_true rfl) dX2_hasEntryOf_11 ⟨Nat.zero_le _, Nat.zero_le _⟩ (fun H locs hG => ?_)
        refine lv_istore (lv' := [(4, .int (f_X2_placeOf y1_2 y3_2 g)), (0, .ref h0), (1, .int y1_2), (2, .int y2_2), (3, .int y3_2)]) hx hb dX2_hasEntryOf_14 hl (by decide) rfl (fun ls hl => ?_)
        refine lv_iload hx hb dX2_hasEntryOf_16 (lv_at hl 0 rfl) ?_
        refine lv_if_eq (tgt := 32) hx hb dX2_hasEntryOf_18 (by decide) (fun cq_2 => ?_) (fun cq_2 => ?_)
        · have hf := ifT cq_2 hf
          refine lv_iinc (v := (y3_2 + (1 : Int32))) (lv' := [(3, .int (y3_2 + (1 : Int32))), (4, .int (f_X2_placeOf y1_2 y3_2 g)), (0, .ref h0), (1, .int y1_2), (2, .int y2_2)]) hx hb dX2_hasEntryOf_32 hl (k := 4) rfl rfl (by decide) rfl (fun ls hl => ?_)
          refine lv_goto (tgt := 2) hx hb dX2_hasEntryOf_35 (by decide) ?_
          have hn := hn2 _ (Option.some.inj hf).symm
          exact ih (y3_2 + (1 : Int32)) _ _ _ hG (lv_sub hl [2, 3, 4, 0] rfl) hn
        · have hf := ifF cq_2 hf
          refine lv_iload hx hb dX2_hasEntryOf_21 (lv_at hl 0 rfl) ?_
          refine gc_Si hA hK hl.1 hG B (c_X2_inodeOfEntry l D (gT cI cJ) _ (wC h0 q1 q2 q3 cJ g) (f_X2_placeOf y1_2 y3_2 g) _ rfl) (va_cwS 1 hts gX2_hasEntryOf_X2_inodeOfEntry rfl rfl rfl (by decide +kernel) ⟨by decide, by decide⟩) rfl rfl (Nat.le_of_ble_eq_true rfl) dX2_hasEntryOf_23 ⟨Nat.zero_le _, Nat.zero_le _⟩ (fun H locs hG => ?_)
          refine lv_iload_n hx hb dX2_hasEntryOf_26 rfl (lv_at hl 3 rfl) ?_
          refine lv_icmp_ne (tgt := 32) hx hb dX2_hasEntryOf_27 (by decide) (fun cq_3 => ?_) (fun cq_3 => ?_)
          · have hf := ifF cq_3 hf
            refine lv_iinc (v := (y3_2 + (1 : Int32))) (lv' := [(3, .int (y3_2 + (1 : Int32))), (4, .int (f_X2_placeOf y1_2 y3_2 g)), (0, .ref h0), (1, .int y1_2), (2, .int y2_2)]) hx hb dX2_hasEntryOf_32 hl (k := 4) rfl rfl (by decide) rfl (fun ls hl => ?_)
            refine lv_goto (tgt := 2) hx hb dX2_hasEntryOf_35 (by decide) ?_
            have hn := hn2 _ (Option.some.inj hf).symm
            exact ih (y3_2 + (1 : Int32)) _ _ _ hG (lv_sub hl [2, 3, 4, 0] rfl) hn
          · have hf := ifT cq_3 hf
            refine lv_iconst (v := 1) hx hb dX2_hasEntryOf_30 (by decide) ?_
            have hf := hKr2 _ (ho2 _ (Option.some.inj hf).symm).symm
            exact g_iret hr hlk hK hG B rfl hf dX2_hasEntryOf_31
  unfold f_X2_hasEntryOf at hf
  refine lv_iconst (v := 0) hx hb dX2_hasEntryOf_0 (by decide) ?_
  refine lv_istore_n (lv' := [(3, .int (0 : Int32)), (0, .ref h0), (1, .int x1), (2, .int x2)]) hx hb dX2_hasEntryOf_1 rfl hl (by decide) rfl (fun ls hl => ?_)
  obtain ⟨zv_4, hizv_4, hf⟩ := ob hf
  refine L2 zv_4 x1 x2 (fun v hres => by subst hres; have hf := se_l hf; exact Option.some.inj hf) (fun H locs ls ev_4 hres hG hl => ?_) 300 (0 : Int32) _ _ _ hG (lv_sub hl [1, 2, 3, 0] rfl) hizv_4
  have hres := hres.symm
  subst hres
  have hf := se_r hf
  refine lv_iconst (v := 0) hx hb dX2_hasEntryOf_38 (by decide) ?_
  have hf := Option.some.inj hf
  exact g_iret hr hlk hK hG B rfl hf dX2_hasEntryOf_39
