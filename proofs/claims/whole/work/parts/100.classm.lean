def f_X0_word (x1 : Int32) (g : CS) : Int64 := (if x1 < (0 : Int32) then (0 : Int64) else (if (244 : Int32) ≤ x1 then (0 : Int64) else (C_ws g x1.toNatClampNeg)))
set_option maxHeartbeats 4000000 in
set_option maxRecDepth 100000 in
theorem c_X0_word (l : Launch) (D : va_G) (cI cJ : ClassId) (h0 q1 q2 q3 sz : Nat) (g : CS) (x1 : Int32) (r : Int64) (hf : f_X0_word x1 g = r) : Met l yX0_word wsX0_word { frames := 0, cells := 0, slots := 0, locals := 0 } (gPc D (gT cI cJ) sz (wC h0 q1 q2 q3 cJ g) [.ref q1, .int x1]) (gQl D (gT cI cJ) (va_A (wC h0 q1 q2 q3 cJ g) sz) r (wC h0 q1 q2 q3 cJ g)) 0 0 (va_A (wC h0 q1 q2 q3 cJ g) sz) := by
  refine gMet (cc := cX0_word) (maxL := 2) (ret := (some .long)) (by decide) rfl ?_ (Nat.le_of_ble_eq_true rfl)
  intro p e0 s m below meth c ls B hr hlk hsz hK hG hl
  have hA : ∀ q : Nat, s.heap.size ≤ q → va_A (wC h0 q1 q2 q3 cJ g) sz q := fun q h => Or.inr (hsz ▸ h)
  have hx := B.1
  have hb := B.2.1
  have hts := B.2.2.2.2
  have hl : lv_has ls 2 [(0, .ref q1), (1, .int x1)] := hl
  generalize va_A (wC h0 q1 q2 q3 cJ g) sz = A at hA hG ⊢
  have hinX0 : ∀ x ∈ wsX00, x ∈ wsX0_word := by decide +kernel
  have m_9 : Cond.fieldLink RX0 9 "BlockMover$Disk" "words" "[J" ∈ wsX0_word := by decide +kernel
  unfold f_X0_word at hf
  refine lv_iload_n hx hb dX0_word_0 rfl (lv_at hl 1 rfl) ?_
  refine lv_if_lt (tgt := 22) hx hb dX0_word_1 (by decide) (fun cq_1 => ?_) (fun cq_1 => ?_)
  · have hf := ifT cq_1 hf
    refine lv_lconst (v := 0) hx hb dX0_word_22 (by decide) ?_
    exact g_lret hr hlk hK hG B hf dX0_word_23
  · have hf := ifF cq_1 hf
    refine lv_iload_n hx hb dX0_word_4 rfl (lv_at hl 1 rfl) ?_
    refine lv_aload_n hx hb dX0_word_5 rfl (lv_at hl 0 rfl) ?_
    refine g_get hK hG B hinX0 1 rfl rfl 0 (by decide) m_9 rfl dX0_word_6 ?_
    refine g_alenJ (v := 244) hK hG B 3 rfl rfl dX0_word_9 ?_
    refine lv_icmp_ge (tgt := 22) hx hb dX0_word_10 (by decide) (fun cq_2 => ?_) (fun cq_2 => ?_)
    · have hf := ifT cq_2 hf
      refine lv_lconst (v := 0) hx hb dX0_word_22 (by decide) ?_
      exact g_lret hr hlk hK hG B hf dX0_word_23
    · have hf := ifF cq_2 hf
      refine lv_aload_n hx hb dX0_word_13 rfl (lv_at hl 0 rfl) ?_
      refine g_get hK hG B hinX0 1 rfl rfl 0 (by decide) m_9 rfl dX0_word_14 ?_
      refine lv_iload_n hx hb dX0_word_17 rfl (lv_at hl 1 rfl) ?_
      refine g_lald hK hG B 3 rfl (in_of (N := 244) rfl (by decide) cq_1 cq_2) dX0_word_18 ?_
      refine lv_goto (tgt := 23) hx hb dX0_word_19 (by decide) ?_
      exact g_lret hr hlk hK hG B hf dX0_word_23
def f_X0_write (x1 : Int32) (x2 : Int64) (g : CS) : CS := (if (C_down g) = (0 : Int32) then (if x1 < (0 : Int32) then g else (if x1 < (244 : Int32) then (if (C_left g) = (0 : Int32) then (sC_left (-3 : Int32) (sC_down (1 : Int32) g)) else (if (C_left g) = (-3 : Int32) then (sC_wr ((C_wr (sC_ws (vp_updL (C_ws g) x1.toNatClampNeg x2) g)) + (1 : Int32)) (sC_ws (vp_updL (C_ws g) x1.toNatClampNeg x2) g)) else (sC_wr ((C_wr (sC_ws (vp_updL (C_ws (sC_left ((C_left g) - (1 : Int32)) g)) x1.toNatClampNeg x2) (sC_left ((C_left g) - (1 : Int32)) g))) + (1 : Int32)) (sC_ws (vp_updL (C_ws (sC_left ((C_left g) - (1 : Int32)) g)) x1.toNatClampNeg x2) (sC_left ((C_left g) - (1 : Int32)) g))))) else g)) else g)
set_option maxHeartbeats 4000000 in
set_option maxRecDepth 100000 in
theorem c_X0_write (l : Launch) (D : va_G) (cI cJ : ClassId) (h0 q1 q2 q3 sz : Nat) (g : CS) (x1 : Int32) (x2 : Int64) (g1 : CS) (hf : f_X0_write x1 x2 g = g1) : Met l yX0_write wsX0_write { frames := 0, cells := 0, slots := 0, locals := 0 } (gPc D (gT cI cJ) sz (wC h0 q1 q2 q3 cJ g) [.ref q1, .int x1, .long x2]) (gQv D (gT cI cJ) (va_A (wC h0 q1 q2 q3 cJ g) sz) (wC h0 q1 q2 q3 cJ g1)) 0 0 (va_A (wC h0 q1 q2 q3 cJ g) sz) := by
  refine gMet (cc := cX0_write) (maxL := 4) (ret := none) (by decide) rfl ?_ (Nat.le_of_ble_eq_true rfl)
  intro p e0 s m below meth c ls B hr hlk hsz hK hG hl
  have hA : ∀ q : Nat, s.heap.size ≤ q → va_A (wC h0 q1 q2 q3 cJ g) sz q := fun q h => Or.inr (hsz ▸ h)
  have hx := B.1
  have hb := B.2.1
  have hts := B.2.2.2.2
  have hl : lv_has ls 4 [(0, .ref q1), (1, .int x1), (2, .long x2)] := hl
  generalize va_A (wC h0 q1 q2 q3 cJ g) sz = A at hA hG ⊢
  have hinX0 : ∀ x ∈ wsX00, x ∈ wsX0_write := by decide +kernel
  have m_9 : Cond.fieldLink RX0 9 "BlockMover$Disk" "words" "[J" ∈ wsX0_write := by decide +kernel
  have m_15 : Cond.fieldLink RX0 15 "BlockMover$Disk" "left" "I" ∈ wsX0_write := by decide +kernel
  have m_19 : Cond.fieldLink RX0 19 "BlockMover$Disk" "down" "Z" ∈ wsX0_write := by decide +kernel
  have m_23 : Cond.fieldLink RX0 23 "BlockMover$Disk" "writes" "I" ∈ wsX0_write := by decide +kernel
  unfold f_X0_write at hf
  refine lv_aload_n hx hb dX0_write_0 rfl (lv_at hl 0 rfl) ?_
  refine g_get hK hG B hinX0 1 rfl rfl 3 (by decide) m_19 rfl dX0_write_1 ?_
  refine lv_if_ne (tgt := 20) hx hb dX0_write_4 (by decide) (fun cq_1 => ?_) (fun cq_1 => ?_)
  · have hf := ifF cq_1 hf
    subst hf
    exact g_vret hr hlk hK hG B dX0_write_20
  · have hf := ifT cq_1 hf
    refine lv_iload_n hx hb dX0_write_7 rfl (lv_at hl 1 rfl) ?_
    refine lv_if_lt (tgt := 20) hx hb dX0_write_8 (by decide) (fun cq_2 => ?_) (fun cq_2 => ?_)
    · have hf := ifT cq_2 hf
      subst hf
      exact g_vret hr hlk hK hG B dX0_write_20
    · have hf := ifF cq_2 hf
      refine lv_iload_n hx hb dX0_write_11 rfl (lv_at hl 1 rfl) ?_
      refine lv_aload_n hx hb dX0_write_12 rfl (lv_at hl 0 rfl) ?_
      refine g_get hK hG B hinX0 1 rfl rfl 0 (by decide) m_9 rfl dX0_write_13 ?_
      refine g_alenJ (v := 244) hK hG B 3 rfl rfl dX0_write_16 ?_
      refine lv_icmp_lt (tgt := 21) hx hb dX0_write_17 (by decide) (fun cq_3 => ?_) (fun cq_3 => ?_)
      · have hf := ifT cq_3 hf
        refine lv_aload_n hx hb dX0_write_21 rfl (lv_at hl 0 rfl) ?_
        refine g_get hK hG B hinX0 1 rfl rfl 1 (by decide) m_15 rfl dX0_write_22 ?_
        refine lv_if_ne (tgt := 40) hx hb dX0_write_25 (by decide) (fun cq_4 => ?_) (fun cq_4 => ?_)
        · have hf := ifF cq_4 hf
          refine lv_aload_n hx hb dX0_write_40 rfl (lv_at hl 0 rfl) ?_
          refine g_get hK hG B hinX0 1 rfl rfl 1 (by decide) m_15 rfl dX0_write_41 ?_
          refine lv_bipush (v := -3) hx hb dX0_write_44 (by decide) ?_
          refine lv_icmp_eq (tgt := 59) hx hb dX0_write_46 (by decide) (fun cq_5 => ?_) (fun cq_5 => ?_)
          · have hf := ifT cq_5 hf
            refine lv_aload_n hx hb dX0_write_59 rfl (lv_at hl 0 rfl) ?_
            refine g_get hK hG B hinX0 1 rfl rfl 0 (by decide) m_9 rfl dX0_write_60 ?_
            refine lv_iload_n hx hb dX0_write_63 rfl (lv_at hl 1 rfl) ?_
            refine lv_lload_n hx hb dX0_write_64 rfl (lv_at hl 2 rfl) ?_
            refine ga_C_ws hK hG B (in_of (N := 244) rfl (by decide) cq_2 (Int32.not_le.mpr cq_3)) dX0_write_65 (fun H locs hG => ?_)
            refine lv_aload_n hx hb dX0_write_66 rfl (lv_at hl 0 rfl) ?_
            refine lv_dup hx hb dX0_write_67 rfl ?_
            refine g_get hK hG B hinX0 1 rfl rfl 2 (by decide) m_23 rfl dX0_write_68 ?_
            refine lv_iconst (v := 1) hx hb dX0_write_71 (by decide) ?_
            refine lv_iadd hx hb dX0_write_72 ?_
            refine gp_C_wr hK hG B hinX0 m_23 dX0_write_73 (fun H locs hG => ?_)
            subst hf
            exact g_vret hr hlk hK hG B dX0_write_76
          · have hf := ifF cq_5 hf
            refine lv_aload_n hx hb dX0_write_49 rfl (lv_at hl 0 rfl) ?_
            refine lv_dup hx hb dX0_write_50 rfl ?_
            refine g_get hK hG B hinX0 1 rfl rfl 1 (by decide) m_15 rfl dX0_write_51 ?_
            refine lv_iconst (v := 1) hx hb dX0_write_54 (by decide) ?_
            refine lv_isub hx hb dX0_write_55 ?_
            refine gp_C_left hK hG B hinX0 m_15 dX0_write_56 (fun H locs hG => ?_)
            refine lv_aload_n hx hb dX0_write_59 rfl (lv_at hl 0 rfl) ?_
            refine g_get hK hG B hinX0 1 rfl rfl 0 (by decide) m_9 rfl dX0_write_60 ?_
            refine lv_iload_n hx hb dX0_write_63 rfl (lv_at hl 1 rfl) ?_
            refine lv_lload_n hx hb dX0_write_64 rfl (lv_at hl 2 rfl) ?_
            refine ga_C_ws hK hG B (in_of (N := 244) rfl (by decide) cq_2 (Int32.not_le.mpr cq_3)) dX0_write_65 (fun H locs hG => ?_)
            refine lv_aload_n hx hb dX0_write_66 rfl (lv_at hl 0 rfl) ?_
            refine lv_dup hx hb dX0_write_67 rfl ?_
            refine g_get hK hG B hinX0 1 rfl rfl 2 (by decide) m_23 rfl dX0_write_68 ?_
            refine lv_iconst (v := 1) hx hb dX0_write_71 (by decide) ?_
            refine lv_iadd hx hb dX0_write_72 ?_
            refine gp_C_wr hK hG B hinX0 m_23 dX0_write_73 (fun H locs hG => ?_)
            subst hf
            exact g_vret hr hlk hK hG B dX0_write_76
        · have hf := ifT cq_4 hf
          refine lv_aload_n hx hb dX0_write_28 rfl (lv_at hl 0 rfl) ?_
          refine lv_iconst (v := 1) hx hb dX0_write_29 (by decide) ?_
          refine gp_C_down hK hG B hinX0 m_19 rfl rfl dX0_write_30 (fun H locs hG => ?_)
          refine lv_aload_n hx hb dX0_write_33 rfl (lv_at hl 0 rfl) ?_
          refine lv_bipush (v := -3) hx hb dX0_write_34 (by decide) ?_
          refine gp_C_left hK hG B hinX0 m_15 dX0_write_36 (fun H locs hG => ?_)
          subst hf
          exact g_vret hr hlk hK hG B dX0_write_39
      · have hf := ifF cq_3 hf
        subst hf
        exact g_vret hr hlk hK hG B dX0_write_20
def f_X1_set (x1 : Int32) (x2 : Int32) (x3 : Int32) (g : CS) : CS := (sC_pt x3 (sC_pp x2 (sC_pi x1 g)))
set_option maxHeartbeats 4000000 in
set_option maxRecDepth 100000 in
theorem c_X1_set (l : Launch) (D : va_G) (cI cJ : ClassId) (h0 q1 q2 q3 sz : Nat) (g : CS) (x1 : Int32) (x2 : Int32) (x3 : Int32) (g1 : CS) (hf : f_X1_set x1 x2 x3 g = g1) : Met l yX1_set wsX1_set { frames := 0, cells := 0, slots := 0, locals := 0 } (gPc D (gT cI cJ) sz (wC h0 q1 q2 q3 cJ g) [.ref q2, .int x1, .int x2, .int x3]) (gQv D (gT cI cJ) (va_A (wC h0 q1 q2 q3 cJ g) sz) (wC h0 q1 q2 q3 cJ g1)) 0 0 (va_A (wC h0 q1 q2 q3 cJ g) sz) := by
  refine gMet (cc := cX1_set) (maxL := 4) (ret := none) (by decide) rfl ?_ (Nat.le_of_ble_eq_true rfl)
  intro p e0 s m below meth c ls B hr hlk hsz hK hG hl
  have hA : ∀ q : Nat, s.heap.size ≤ q → va_A (wC h0 q1 q2 q3 cJ g) sz q := fun q h => Or.inr (hsz ▸ h)
  have hx := B.1
  have hb := B.2.1
  have hts := B.2.2.2.2
  have hl : lv_has ls 4 [(0, .ref q2), (1, .int x1), (2, .int x2), (3, .int x3)] := hl
  generalize va_A (wC h0 q1 q2 q3 cJ g) sz = A at hA hG ⊢
  have hinX1 : ∀ x ∈ wsX10, x ∈ wsX1_set := by decide +kernel
  have m_7 : Cond.fieldLink RX1 7 "BlockMover$Plan" "inode" "I" ∈ wsX1_set := by decide +kernel
  have m_13 : Cond.fieldLink RX1 13 "BlockMover$Plan" "place" "I" ∈ wsX1_set := by decide +kernel
  have m_16 : Cond.fieldLink RX1 16 "BlockMover$Plan" "to" "I" ∈ wsX1_set := by decide +kernel
  unfold f_X1_set at hf
  refine lv_aload_n hx hb dX1_set_0 rfl (lv_at hl 0 rfl) ?_
  refine lv_iload_n hx hb dX1_set_1 rfl (lv_at hl 1 rfl) ?_
  refine gp_C_pi hK hG B hinX1 m_7 dX1_set_2 (fun H locs hG => ?_)
  refine lv_aload_n hx hb dX1_set_5 rfl (lv_at hl 0 rfl) ?_
  refine lv_iload_n hx hb dX1_set_6 rfl (lv_at hl 2 rfl) ?_
  refine gp_C_pp hK hG B hinX1 m_13 dX1_set_7 (fun H locs hG => ?_)
  refine lv_aload_n hx hb dX1_set_10 rfl (lv_at hl 0 rfl) ?_
  refine lv_iload_n hx hb dX1_set_11 rfl (lv_at hl 3 rfl) ?_
  refine gp_C_pt hK hG B hinX1 m_16 dX1_set_12 (fun H locs hG => ?_)
  subst hf
  exact g_vret hr hlk hK hG B dX1_set_15
def f_X2_isBelow (x0 : Int32) (x1 : Int32) : Int32 := (if x0 < (0 : Int32) then (0 : Int32) else (if x1 ≤ x0 then (0 : Int32) else (1 : Int32)))
set_option maxHeartbeats 4000000 in
set_option maxRecDepth 100000 in
theorem c_X2_isBelow (l : Launch) (D : va_G) (tys : List (ClassId × FieldType)) (sz : Nat) (w : va_W) (x0 : Int32) (x1 : Int32) (r : Int32) (hf : f_X2_isBelow x0 x1 = r) : Met l yX2_isBelow wsX2_isBelow { frames := 0, cells := 0, slots := 0, locals := 0 } (gPc D tys sz w [.int x0, .int x1]) (gQi D tys (va_A w sz) r w) 0 0 (va_A w sz) := by
  refine gMet (cc := cX2_isBelow) (maxL := 2) (ret := (some .boolean)) (by decide) rfl ?_ (Nat.le_of_ble_eq_true rfl)
  intro p e0 s m below meth c ls B hr hlk hsz hK hG hl
  have hA : ∀ q : Nat, s.heap.size ≤ q → va_A w sz q := fun q h => Or.inr (hsz ▸ h)
  have hx := B.1
  have hb := B.2.1
  have hts := B.2.2.2.2
  have hl : lv_has ls 2 [(0, .int x0), (1, .int x1)] := hl
  generalize va_A w sz = A at hA hG ⊢
  unfold f_X2_isBelow at hf
  refine lv_iload_n hx hb dX2_isBelow_0 rfl (lv_at hl 0 rfl) ?_
  refine lv_if_lt (tgt := 13) hx hb dX2_isBelow_1 (by decide) (fun cq_1 => ?_) (fun cq_1 => ?_)
  · have hf := ifT cq_1 hf
    refine lv_iconst (v := 0) hx hb dX2_isBelow_13 (by decide) ?_
    exact g_iret hr hlk hK hG B rfl hf dX2_isBelow_14
  · have hf := ifF cq_1 hf
    refine lv_iload_n hx hb dX2_isBelow_4 rfl (lv_at hl 0 rfl) ?_
    refine lv_iload_n hx hb dX2_isBelow_5 rfl (lv_at hl 1 rfl) ?_
    refine lv_icmp_ge (tgt := 13) hx hb dX2_isBelow_6 (by decide) (fun cq_2 => ?_) (fun cq_2 => ?_)
    · have hf := ifT cq_2 hf
      refine lv_iconst (v := 0) hx hb dX2_isBelow_13 (by decide) ?_
      exact g_iret hr hlk hK hG B rfl hf dX2_isBelow_14
    · have hf := ifF cq_2 hf
      refine lv_iconst (v := 1) hx hb dX2_isBelow_9 (by decide) ?_
      refine lv_goto (tgt := 14) hx hb dX2_isBelow_10 (by decide) ?_
      exact g_iret hr hlk hK hG B rfl hf dX2_isBelow_14
def f_X2_cut (x1 : Int32) (g : CS) : (Int32 × CS) := (if x1 = (-3 : Int32) then ((C_left g), (sC_left x1 g)) else (if (f_X2_isBelow x1 (41 : Int32)) = (0 : Int32) then ((-1 : Int32), g) else ((C_left g), (sC_left x1 g))))
set_option maxHeartbeats 4000000 in
set_option maxRecDepth 100000 in
theorem c_X2_cut (l : Launch) (D : va_G) (cI cJ : ClassId) (h0 q1 q2 q3 sz : Nat) (g : CS) (x1 : Int32) (r : Int32) (g1 : CS) (hf : f_X2_cut x1 g = (r, g1)) : Met l yX2_cut wsX2_cut { frames := 1, cells := 0, slots := 0, locals := 21 } (gPc D (gT cI cJ) sz (wC h0 q1 q2 q3 cJ g) [.ref h0, .int x1]) (gQi D (gT cI cJ) (va_A (wC h0 q1 q2 q3 cJ g) sz) r (wC h0 q1 q2 q3 cJ g1)) 0 0 (va_A (wC h0 q1 q2 q3 cJ g) sz) := by
  refine gMet (cc := cX2_cut) (maxL := 3) (ret := (some .int)) (by decide) rfl ?_ (Nat.le_of_ble_eq_true rfl)
  intro p e0 s m below meth c ls B hr hlk hsz hK hG hl
  have hA : ∀ q : Nat, s.heap.size ≤ q → va_A (wC h0 q1 q2 q3 cJ g) sz q := fun q h => Or.inr (hsz ▸ h)
  have hx := B.1
  have hb := B.2.1
  have hts := B.2.2.2.2
  have hl : lv_has ls 3 [(0, .ref h0), (1, .int x1)] := hl
  generalize va_A (wC h0 q1 q2 q3 cJ g) sz = A at hA hG ⊢
  have hinX0 : ∀ x ∈ wsX00, x ∈ wsX2_cut := by decide +kernel
  have hinX2 : ∀ x ∈ wsX20, x ∈ wsX2_cut := by decide +kernel
  have m_12 : Cond.fieldLink RX2 12 "BlockMover" "disk" "LBlockMover$Disk;" ∈ wsX2_cut := by decide +kernel
  have m_27 : Cond.fieldLink RX2 27 "BlockMover$Disk" "left" "I" ∈ wsX2_cut := by decide +kernel
  unfold f_X2_cut at hf
  refine lv_iload_n hx hb dX2_cut_0 rfl (lv_at hl 1 rfl) ?_
  refine lv_bipush (v := -3) hx hb dX2_cut_1 (by decide) ?_
  refine lv_icmp_eq (tgt := 17) hx hb dX2_cut_3 (by decide) (fun cq_1 => ?_) (fun cq_1 => ?_)
  · have hf := ifT cq_1 hf
    refine lv_aload_n hx hb dX2_cut_17 rfl (lv_at hl 0 rfl) ?_
    refine g_get hK hG B hinX2 0 rfl rfl 0 (by decide) m_12 rfl dX2_cut_18 ?_
    refine g_get hK hG B hinX0 1 rfl rfl 1 (by decide) m_27 rfl dX2_cut_21 ?_
    refine lv_istore_n (lv' := [(2, .int (C_left g)), (0, .ref h0), (1, .int x1)]) hx hb dX2_cut_24 rfl hl (by decide) rfl (fun ls hl => ?_)
    refine lv_aload_n hx hb dX2_cut_25 rfl (lv_at hl 1 rfl) ?_
    refine g_get hK hG B hinX2 0 rfl rfl 0 (by decide) m_12 rfl dX2_cut_26 ?_
    refine lv_iload_n hx hb dX2_cut_29 rfl (lv_at hl 2 rfl) ?_
    refine gp_C_left hK hG B hinX0 m_27 dX2_cut_30 (fun H locs hG => ?_)
    refine lv_iload_n hx hb dX2_cut_33 rfl (lv_at hl 0 rfl) ?_
    obtain ⟨e1, e2⟩ := Prod.mk.inj hf
    subst e2
    exact g_iret hr hlk hK hG B rfl e1 dX2_cut_34
  · have hf := ifF cq_1 hf
    refine lv_iload_n hx hb dX2_cut_6 rfl (lv_at hl 1 rfl) ?_
    refine lv_bipush (v := 41) hx hb dX2_cut_7 (by decide) ?_
    refine gc_Si hA hK hl.1 hG B (c_X2_isBelow l D (gT cI cJ) _ (wC h0 q1 q2 q3 cJ g) x1 (41 : Int32) _ rfl) (va_cwS 2 hts gX2_cut_X2_isBelow rfl rfl rfl (by decide +kernel) ⟨by decide, by decide⟩) rfl rfl (Nat.le_of_ble_eq_true rfl) dX2_cut_9 ⟨Nat.zero_le _, Nat.zero_le _⟩ (fun H locs hG => ?_)
    refine lv_if_ne (tgt := 17) hx hb dX2_cut_12 (by decide) (fun cq_2 => ?_) (fun cq_2 => ?_)
    · have hf := ifF cq_2 hf
      refine lv_aload_n hx hb dX2_cut_17 rfl (lv_at hl 0 rfl) ?_
      refine g_get hK hG B hinX2 0 rfl rfl 0 (by decide) m_12 rfl dX2_cut_18 ?_
      refine g_get hK hG B hinX0 1 rfl rfl 1 (by decide) m_27 rfl dX2_cut_21 ?_
      refine lv_istore_n (lv' := [(2, .int (C_left g)), (0, .ref h0), (1, .int x1)]) hx hb dX2_cut_24 rfl hl (by decide) rfl (fun ls hl => ?_)
      refine lv_aload_n hx hb dX2_cut_25 rfl (lv_at hl 1 rfl) ?_
      refine g_get hK hG B hinX2 0 rfl rfl 0 (by decide) m_12 rfl dX2_cut_26 ?_
      refine lv_iload_n hx hb dX2_cut_29 rfl (lv_at hl 2 rfl) ?_
      refine gp_C_left hK hG B hinX0 m_27 dX2_cut_30 (fun H locs hG => ?_)
      refine lv_iload_n hx hb dX2_cut_33 rfl (lv_at hl 0 rfl) ?_
      obtain ⟨e1, e2⟩ := Prod.mk.inj hf
      subst e2
      exact g_iret hr hlk hK hG B rfl e1 dX2_cut_34
    · have hf := ifT cq_2 hf
      refine lv_iconst (v := -1) hx hb dX2_cut_15 (by decide) ?_
      obtain ⟨e1, e2⟩ := Prod.mk.inj hf
      subst e2
      exact g_iret hr hlk hK hG B rfl e1 dX2_cut_16
def f_X2_isDown  (g : CS) : Int32 := (if (C_down g) = (0 : Int32) then (0 : Int32) else (1 : Int32))
set_option maxHeartbeats 4000000 in
set_option maxRecDepth 100000 in
theorem c_X2_isDown (l : Launch) (D : va_G) (cI cJ : ClassId) (h0 q1 q2 q3 sz : Nat) (g : CS)  (r : Int32) (hf : f_X2_isDown  g = r) : Met l yX2_isDown wsX2_isDown { frames := 0, cells := 0, slots := 0, locals := 0 } (gPc D (gT cI cJ) sz (wC h0 q1 q2 q3 cJ g) [.ref h0]) (gQi D (gT cI cJ) (va_A (wC h0 q1 q2 q3 cJ g) sz) r (wC h0 q1 q2 q3 cJ g)) 0 0 (va_A (wC h0 q1 q2 q3 cJ g) sz) := by
  refine gMet (cc := cX2_isDown) (maxL := 1) (ret := (some .int)) (by decide) rfl ?_ (Nat.le_of_ble_eq_true rfl)
  intro p e0 s m below meth c ls B hr hlk hsz hK hG hl
  have hA : ∀ q : Nat, s.heap.size ≤ q → va_A (wC h0 q1 q2 q3 cJ g) sz q := fun q h => Or.inr (hsz ▸ h)
  have hx := B.1
  have hb := B.2.1
  have hts := B.2.2.2.2
  have hl : lv_has ls 1 [(0, .ref h0)] := hl
  generalize va_A (wC h0 q1 q2 q3 cJ g) sz = A at hA hG ⊢
  have hinX0 : ∀ x ∈ wsX00, x ∈ wsX2_isDown := by decide +kernel
  have hinX2 : ∀ x ∈ wsX20, x ∈ wsX2_isDown := by decide +kernel
  have m_12 : Cond.fieldLink RX2 12 "BlockMover" "disk" "LBlockMover$Disk;" ∈ wsX2_isDown := by decide +kernel
  have m_31 : Cond.fieldLink RX2 31 "BlockMover$Disk" "down" "Z" ∈ wsX2_isDown := by decide +kernel
  unfold f_X2_isDown at hf
  refine lv_aload_n hx hb dX2_isDown_0 rfl (lv_at hl 0 rfl) ?_
  refine g_get hK hG B hinX2 0 rfl rfl 0 (by decide) m_12 rfl dX2_isDown_1 ?_
  refine g_get hK hG B hinX0 1 rfl rfl 3 (by decide) m_31 rfl dX2_isDown_4 ?_
  refine lv_if_eq (tgt := 14) hx hb dX2_isDown_7 (by decide) (fun cq_1 => ?_) (fun cq_1 => ?_)
  · have hf := ifT cq_1 hf
    refine lv_iconst (v := 0) hx hb dX2_isDown_14 (by decide) ?_
    exact g_iret hr hlk hK hG B rfl hf dX2_isDown_15
  · have hf := ifF cq_1 hf
    refine lv_iconst (v := 1) hx hb dX2_isDown_10 (by decide) ?_
    refine lv_goto (tgt := 15) hx hb dX2_isDown_11 (by decide) ?_
    exact g_iret hr hlk hK hG B rfl hf dX2_isDown_15
def f_X2_inodeAt (x0 : Int32) (x1 : Int32) : Int32 := ((x0 * (10 : Int32)) + x1)
set_option maxHeartbeats 4000000 in
set_option maxRecDepth 100000 in
theorem c_X2_inodeAt (l : Launch) (D : va_G) (tys : List (ClassId × FieldType)) (sz : Nat) (w : va_W) (x0 : Int32) (x1 : Int32) (r : Int32) (hf : f_X2_inodeAt x0 x1 = r) : Met l yX2_inodeAt wsX2_inodeAt { frames := 0, cells := 0, slots := 0, locals := 0 } (gPc D tys sz w [.int x0, .int x1]) (gQi D tys (va_A w sz) r w) 0 0 (va_A w sz) := by
  refine gMet (cc := cX2_inodeAt) (maxL := 2) (ret := (some .int)) (by decide) rfl ?_ (Nat.le_of_ble_eq_true rfl)
  intro p e0 s m below meth c ls B hr hlk hsz hK hG hl
  have hA : ∀ q : Nat, s.heap.size ≤ q → va_A w sz q := fun q h => Or.inr (hsz ▸ h)
  have hx := B.1
  have hb := B.2.1
  have hts := B.2.2.2.2
  have hl : lv_has ls 2 [(0, .int x0), (1, .int x1)] := hl
  generalize va_A w sz = A at hA hG ⊢
  unfold f_X2_inodeAt at hf
  refine lv_iload_n hx hb dX2_inodeAt_0 rfl (lv_at hl 0 rfl) ?_
  refine lv_bipush (v := 10) hx hb dX2_inodeAt_1 (by decide) ?_
  refine lv_imul hx hb dX2_inodeAt_3 ?_
  refine lv_iload_n hx hb dX2_inodeAt_4 rfl (lv_at hl 1 rfl) ?_
  refine lv_iadd hx hb dX2_inodeAt_5 ?_
  exact g_iret hr hlk hK hG B rfl hf dX2_inodeAt_6
def f_X2_kindOf (x1 : Int32) (g : CS) : Int32 := (f_X0_word (f_X2_inodeAt x1 (0 : Int32)) g).toInt32
set_option maxHeartbeats 4000000 in
set_option maxRecDepth 100000 in
theorem c_X2_kindOf (l : Launch) (D : va_G) (cI cJ : ClassId) (h0 q1 q2 q3 sz : Nat) (g : CS) (x1 : Int32) (r : Int32) (hf : f_X2_kindOf x1 g = r) : Met l yX2_kindOf wsX2_kindOf { frames := 1, cells := 0, slots := 0, locals := 21 } (gPc D (gT cI cJ) sz (wC h0 q1 q2 q3 cJ g) [.ref h0, .int x1]) (gQi D (gT cI cJ) (va_A (wC h0 q1 q2 q3 cJ g) sz) r (wC h0 q1 q2 q3 cJ g)) 0 0 (va_A (wC h0 q1 q2 q3 cJ g) sz) := by
  refine gMet (cc := cX2_kindOf) (maxL := 2) (ret := (some .int)) (by decide) rfl ?_ (Nat.le_of_ble_eq_true rfl)
  intro p e0 s m below meth c ls B hr hlk hsz hK hG hl
  have hA : ∀ q : Nat, s.heap.size ≤ q → va_A (wC h0 q1 q2 q3 cJ g) sz q := fun q h => Or.inr (hsz ▸ h)
  have hx := B.1
  have hb := B.2.1
  have hts := B.2.2.2.2
  have hl : lv_has ls 2 [(0, .ref h0), (1, .int x1)] := hl
  generalize va_A (wC h0 q1 q2 q3 cJ g) sz = A at hA hG ⊢
  have hinX2 : ∀ x ∈ wsX20, x ∈ wsX2_kindOf := by decide +kernel
  have m_12 : Cond.fieldLink RX2 12 "BlockMover" "disk" "LBlockMover$Disk;" ∈ wsX2_kindOf := by decide +kernel
  unfold f_X2_kindOf at hf
  refine lv_aload_n hx hb dX2_kindOf_0 rfl (lv_at hl 0 rfl) ?_
  refine g_get hK hG B hinX2 0 rfl rfl 0 (by decide) m_12 rfl dX2_kindOf_1 ?_
  refine lv_iload_n hx hb dX2_kindOf_4 rfl (lv_at hl 1 rfl) ?_
  refine lv_iconst (v := 0) hx hb dX2_kindOf_5 (by decide) ?_
  refine gc_Si hA hK hl.1 hG B (c_X2_inodeAt l D (gT cI cJ) _ (wC h0 q1 q2 q3 cJ g) x1 (0 : Int32) _ rfl) (va_cwS 2 hts gX2_kindOf_X2_inodeAt rfl rfl rfl (by decide +kernel) ⟨by decide, by decide⟩) rfl rfl (Nat.le_of_ble_eq_true rfl) dX2_kindOf_6 ⟨Nat.zero_le _, Nat.zero_le _⟩ (fun H locs hG => ?_)
  refine gc_Vl hA hK hl.1 hG B (c_X0_word l D cI cJ h0 q1 q2 q3 _ g (f_X2_inodeAt x1 (0 : Int32)) _ rfl) (cwV 1 hts gX2_kindOf_X0_word rfl rfl rfl (by decide +kernel) ⟨by decide, by decide⟩) 1 rfl rfl rfl rfl rfl (Nat.le_of_ble_eq_true rfl) dX2_kindOf_9 ⟨Nat.zero_le _, Nat.zero_le _⟩ (fun H locs hG => ?_)
  refine lv_l2i hx hb dX2_kindOf_12 rfl ?_
  exact g_iret hr hlk hK hG B rfl hf dX2_kindOf_13
def f_X2_isOfKind (x1 : Int32) (x2 : Int32) (g : CS) : Int32 := (if (f_X2_isBelow x1 (12 : Int32)) = (0 : Int32) then (0 : Int32) else (if (f_X2_kindOf x1 g) = x2 then (1 : Int32) else (0 : Int32)))
set_option maxHeartbeats 4000000 in
set_option maxRecDepth 100000 in
theorem c_X2_isOfKind (l : Launch) (D : va_G) (cI cJ : ClassId) (h0 q1 q2 q3 sz : Nat) (g : CS) (x1 : Int32) (x2 : Int32) (r : Int32) (hf : f_X2_isOfKind x1 x2 g = r) : Met l yX2_isOfKind wsX2_isOfKind { frames := 2, cells := 0, slots := 0, locals := 42 } (gPc D (gT cI cJ) sz (wC h0 q1 q2 q3 cJ g) [.ref h0, .int x1, .int x2]) (gQi D (gT cI cJ) (va_A (wC h0 q1 q2 q3 cJ g) sz) r (wC h0 q1 q2 q3 cJ g)) 0 0 (va_A (wC h0 q1 q2 q3 cJ g) sz) := by
  refine gMet (cc := cX2_isOfKind) (maxL := 3) (ret := (some .boolean)) (by decide) rfl ?_ (Nat.le_of_ble_eq_true rfl)
  intro p e0 s m below meth c ls B hr hlk hsz hK hG hl
  have hA : ∀ q : Nat, s.heap.size ≤ q → va_A (wC h0 q1 q2 q3 cJ g) sz q := fun q h => Or.inr (hsz ▸ h)
  have hx := B.1
  have hb := B.2.1
  have hts := B.2.2.2.2
  have hl : lv_has ls 3 [(0, .ref h0), (1, .int x1), (2, .int x2)] := hl
  generalize va_A (wC h0 q1 q2 q3 cJ g) sz = A at hA hG ⊢
  unfold f_X2_isOfKind at hf
  refine lv_iload_n hx hb dX2_isOfKind_0 rfl (lv_at hl 1 rfl) ?_
  refine lv_bipush (v := 12) hx hb dX2_isOfKind_1 (by decide) ?_
  refine gc_Si hA hK hl.1 hG B (c_X2_isBelow l D (gT cI cJ) _ (wC h0 q1 q2 q3 cJ g) x1 (12 : Int32) _ rfl) (va_cwS 2 hts gX2_isOfKind_X2_isBelow rfl rfl rfl (by decide +kernel) ⟨by decide, by decide⟩) rfl rfl (Nat.le_of_ble_eq_true rfl) dX2_isOfKind_3 ⟨Nat.zero_le _, Nat.zero_le _⟩ (fun H locs hG => ?_)
  refine lv_if_eq (tgt := 22) hx hb dX2_isOfKind_6 (by decide) (fun cq_1 => ?_) (fun cq_1 => ?_)
  · have hf := ifT cq_1 hf
    refine lv_iconst (v := 0) hx hb dX2_isOfKind_22 (by decide) ?_
    exact g_iret hr hlk hK hG B rfl hf dX2_isOfKind_23
  · have hf := ifF cq_1 hf
    refine lv_aload_n hx hb dX2_isOfKind_9 rfl (lv_at hl 0 rfl) ?_
    refine lv_iload_n hx hb dX2_isOfKind_10 rfl (lv_at hl 1 rfl) ?_
    refine gc_Vi hA hK hl.1 hG B (c_X2_kindOf l D cI cJ h0 q1 q2 q3 _ g x1 _ rfl) (cwV 1 hts gX2_isOfKind_X2_kindOf rfl rfl rfl (by decide +kernel) ⟨by decide, by decide⟩) 0 rfl rfl rfl rfl rfl (Nat.le_of_ble_eq_true rfl) dX2_isOfKind_11 ⟨Nat.zero_le _, Nat.zero_le _⟩ (fun H locs hG => ?_)
    refine lv_iload_n hx hb dX2_isOfKind_14 rfl (lv_at hl 2 rfl) ?_
    refine lv_icmp_ne (tgt := 22) hx hb dX2_isOfKind_15 (by decide) (fun cq_2 => ?_) (fun cq_2 => ?_)
    · have hf := ifF cq_2 hf
      refine lv_iconst (v := 0) hx hb dX2_isOfKind_22 (by decide) ?_
      exact g_iret hr hlk hK hG B rfl hf dX2_isOfKind_23
    · have hf := ifT cq_2 hf
      refine lv_iconst (v := 1) hx hb dX2_isOfKind_18 (by decide) ?_
      refine lv_goto (tgt := 23) hx hb dX2_isOfKind_19 (by decide) ?_
      exact g_iret hr hlk hK hG B rfl hf dX2_isOfKind_23
def f_X2_isName (x0 : Int32) : Int32 := (if x0 < (1 : Int32) then (0 : Int32) else (if (99 : Int32) < x0 then (0 : Int32) else (1 : Int32)))
set_option maxHeartbeats 4000000 in
set_option maxRecDepth 100000 in
theorem c_X2_isName (l : Launch) (D : va_G) (tys : List (ClassId × FieldType)) (sz : Nat) (w : va_W) (x0 : Int32) (r : Int32) (hf : f_X2_isName x0 = r) : Met l yX2_isName wsX2_isName { frames := 0, cells := 0, slots := 0, locals := 0 } (gPc D tys sz w [.int x0]) (gQi D tys (va_A w sz) r w) 0 0 (va_A w sz) := by
  refine gMet (cc := cX2_isName) (maxL := 1) (ret := (some .boolean)) (by decide) rfl ?_ (Nat.le_of_ble_eq_true rfl)
  intro p e0 s m below meth c ls B hr hlk hsz hK hG hl
  have hA : ∀ q : Nat, s.heap.size ≤ q → va_A w sz q := fun q h => Or.inr (hsz ▸ h)
  have hx := B.1
  have hb := B.2.1
  have hts := B.2.2.2.2
  have hl : lv_has ls 1 [(0, .int x0)] := hl
  generalize va_A w sz = A at hA hG ⊢
  unfold f_X2_isName at hf
  refine lv_iload_n hx hb dX2_isName_0 rfl (lv_at hl 0 rfl) ?_
  refine lv_iconst (v := 1) hx hb dX2_isName_1 (by decide) ?_
  refine lv_icmp_lt (tgt := 15) hx hb dX2_isName_2 (by decide) (fun cq_1 => ?_) (fun cq_1 => ?_)
  · have hf := ifT cq_1 hf
    refine lv_iconst (v := 0) hx hb dX2_isName_15 (by decide) ?_
    exact g_iret hr hlk hK hG B rfl hf dX2_isName_16
  · have hf := ifF cq_1 hf
    refine lv_iload_n hx hb dX2_isName_5 rfl (lv_at hl 0 rfl) ?_
    refine lv_bipush (v := 99) hx hb dX2_isName_6 (by decide) ?_
    refine lv_icmp_gt (tgt := 15) hx hb dX2_isName_8 (by decide) (fun cq_2 => ?_) (fun cq_2 => ?_)
    · have hf := ifT cq_2 hf
      refine lv_iconst (v := 0) hx hb dX2_isName_15 (by decide) ?_
      exact g_iret hr hlk hK hG B rfl hf dX2_isName_16
    · have hf := ifF cq_2 hf
      refine lv_iconst (v := 1) hx hb dX2_isName_11 (by decide) ?_
      refine lv_goto (tgt := 16) hx hb dX2_isName_12 (by decide) ?_
      exact g_iret hr hlk hK hG B rfl hf dX2_isName_16
def f_X2_placeAt (x0 : Int32) (x1 : Int32) : Int32 := (f_X2_inodeAt x0 ((2 : Int32) + x1))
set_option maxHeartbeats 4000000 in
set_option maxRecDepth 100000 in
theorem c_X2_placeAt (l : Launch) (D : va_G) (tys : List (ClassId × FieldType)) (sz : Nat) (w : va_W) (x0 : Int32) (x1 : Int32) (r : Int32) (hf : f_X2_placeAt x0 x1 = r) : Met l yX2_placeAt wsX2_placeAt { frames := 1, cells := 0, slots := 0, locals := 21 } (gPc D tys sz w [.int x0, .int x1]) (gQi D tys (va_A w sz) r w) 0 0 (va_A w sz) := by
  refine gMet (cc := cX2_placeAt) (maxL := 2) (ret := (some .int)) (by decide) rfl ?_ (Nat.le_of_ble_eq_true rfl)
  intro p e0 s m below meth c ls B hr hlk hsz hK hG hl
  have hA : ∀ q : Nat, s.heap.size ≤ q → va_A w sz q := fun q h => Or.inr (hsz ▸ h)
  have hx := B.1
  have hb := B.2.1
  have hts := B.2.2.2.2
  have hl : lv_has ls 2 [(0, .int x0), (1, .int x1)] := hl
  generalize va_A w sz = A at hA hG ⊢
  unfold f_X2_placeAt at hf
  refine lv_iload_n hx hb dX2_placeAt_0 rfl (lv_at hl 0 rfl) ?_
  refine lv_iconst (v := 2) hx hb dX2_placeAt_1 (by decide) ?_
  refine lv_iload_n hx hb dX2_placeAt_2 rfl (lv_at hl 1 rfl) ?_
  refine lv_iadd hx hb dX2_placeAt_3 ?_
  refine gc_Si hA hK hl.1 hG B (c_X2_inodeAt l D tys _ w x0 ((2 : Int32) + x1) _ rfl) (va_cwS 2 hts gX2_placeAt_X2_inodeAt rfl rfl rfl (by decide +kernel) ⟨by decide, by decide⟩) rfl rfl (Nat.le_of_ble_eq_true rfl) dX2_placeAt_4 ⟨Nat.zero_le _, Nat.zero_le _⟩ (fun H locs hG => ?_)
  exact g_iret hr hlk hK hG B rfl hf dX2_placeAt_7
def f_X2_placeOf (x1 : Int32) (x2 : Int32) (g : CS) : Int32 := (f_X0_word (f_X2_placeAt x1 x2) g).toInt32
set_option maxHeartbeats 4000000 in
set_option maxRecDepth 100000 in
theorem c_X2_placeOf (l : Launch) (D : va_G) (cI cJ : ClassId) (h0 q1 q2 q3 sz : Nat) (g : CS) (x1 : Int32) (x2 : Int32) (r : Int32) (hf : f_X2_placeOf x1 x2 g = r) : Met l yX2_placeOf wsX2_placeOf { frames := 2, cells := 0, slots := 0, locals := 42 } (gPc D (gT cI cJ) sz (wC h0 q1 q2 q3 cJ g) [.ref h0, .int x1, .int x2]) (gQi D (gT cI cJ) (va_A (wC h0 q1 q2 q3 cJ g) sz) r (wC h0 q1 q2 q3 cJ g)) 0 0 (va_A (wC h0 q1 q2 q3 cJ g) sz) := by
  refine gMet (cc := cX2_placeOf) (maxL := 3) (ret := (some .int)) (by decide) rfl ?_ (Nat.le_of_ble_eq_true rfl)
  intro p e0 s m below meth c ls B hr hlk hsz hK hG hl
  have hA : ∀ q : Nat, s.heap.size ≤ q → va_A (wC h0 q1 q2 q3 cJ g) sz q := fun q h => Or.inr (hsz ▸ h)
  have hx := B.1
  have hb := B.2.1
  have hts := B.2.2.2.2
  have hl : lv_has ls 3 [(0, .ref h0), (1, .int x1), (2, .int x2)] := hl
  generalize va_A (wC h0 q1 q2 q3 cJ g) sz = A at hA hG ⊢
  have hinX2 : ∀ x ∈ wsX20, x ∈ wsX2_placeOf := by decide +kernel
  have m_12 : Cond.fieldLink RX2 12 "BlockMover" "disk" "LBlockMover$Disk;" ∈ wsX2_placeOf := by decide +kernel
  unfold f_X2_placeOf at hf
  refine lv_aload_n hx hb dX2_placeOf_0 rfl (lv_at hl 0 rfl) ?_
  refine g_get hK hG B hinX2 0 rfl rfl 0 (by decide) m_12 rfl dX2_placeOf_1 ?_
  refine lv_iload_n hx hb dX2_placeOf_4 rfl (lv_at hl 1 rfl) ?_
  refine lv_iload_n hx hb dX2_placeOf_5 rfl (lv_at hl 2 rfl) ?_
  refine gc_Si hA hK hl.1 hG B (c_X2_placeAt l D (gT cI cJ) _ (wC h0 q1 q2 q3 cJ g) x1 x2 _ rfl) (va_cwS 2 hts gX2_placeOf_X2_placeAt rfl rfl rfl (by decide +kernel) ⟨by decide, by decide⟩) rfl rfl (Nat.le_of_ble_eq_true rfl) dX2_placeOf_6 ⟨Nat.zero_le _, Nat.zero_le _⟩ (fun H locs hG => ?_)
  refine gc_Vl hA hK hl.1 hG B (c_X0_word l D cI cJ h0 q1 q2 q3 _ g (f_X2_placeAt x1 x2) _ rfl) (cwV 1 hts gX2_placeOf_X0_word rfl rfl rfl (by decide +kernel) ⟨by decide, by decide⟩) 1 rfl rfl rfl rfl rfl (Nat.le_of_ble_eq_true rfl) dX2_placeOf_9 ⟨Nat.zero_le _, Nat.zero_le _⟩ (fun H locs hG => ?_)
  refine lv_l2i hx hb dX2_placeOf_12 rfl ?_
  exact g_iret hr hlk hK hG B rfl hf dX2_placeOf_13
def f_X2_nameOfEntry (x0 : Int32) : Int32 := (x0 - x0 / (100 : Int32) * (100 : Int32))
set_option maxHeartbeats 4000000 in
set_option maxRecDepth 100000 in
theorem c_X2_nameOfEntry (l : Launch) (D : va_G) (tys : List (ClassId × FieldType)) (sz : Nat) (w : va_W) (x0 : Int32) (r : Int32) (hf : f_X2_nameOfEntry x0 = r) : Met l yX2_nameOfEntry wsX2_nameOfEntry { frames := 0, cells := 0, slots := 0, locals := 0 } (gPc D tys sz w [.int x0]) (gQi D tys (va_A w sz) r w) 0 0 (va_A w sz) := by
  refine gMet (cc := cX2_nameOfEntry) (maxL := 1) (ret := (some .int)) (by decide) rfl ?_ (Nat.le_of_ble_eq_true rfl)
  intro p e0 s m below meth c ls B hr hlk hsz hK hG hl
  have hA : ∀ q : Nat, s.heap.size ≤ q → va_A w sz q := fun q h => Or.inr (hsz ▸ h)
  have hx := B.1
  have hb := B.2.1
  have hts := B.2.2.2.2
  have hl : lv_has ls 1 [(0, .int x0)] := hl
  generalize va_A w sz = A at hA hG ⊢
  unfold f_X2_nameOfEntry at hf
  refine lv_iload_n hx hb dX2_nameOfEntry_0 rfl (lv_at hl 0 rfl) ?_
  refine lv_bipush (v := 100) hx hb dX2_nameOfEntry_1 (by decide) ?_
  refine lv_irem hx hb dX2_nameOfEntry_3 (by decide) ?_
  exact g_iret hr hlk hK hG B rfl hf dX2_nameOfEntry_4
def b_X2_placeOfName_2 (y1_2 : Int32) (y2_2 : Int32) (g : CS) (y3_2 : Int32) : Option (((Int32) ⊕ (Unit)) ⊕ (Int32)) := (if (8 : Int32) ≤ y3_2 then some (.inl (.inr ())) else (if (f_X2_nameOfEntry (f_X2_placeOf y1_2 y3_2 g)) = y2_2 then some (.inl (.inl y3_2)) else some (.inr (y3_2 + (1 : Int32)))))
def f_X2_placeOfName (x1 : Int32) (x2 : Int32) (g : CS) : Option Int32 := ((itl (fun a : Int32 => b_X2_placeOfName_2 x1 x2 g a) 300 (0 : Int32)).bind (fun zv_3 => Sum.elim (fun v => some v) (fun ev_3 => some (-3 : Int32)) zv_3))
set_option maxHeartbeats 4000000 in
set_option maxRecDepth 100000 in
theorem c_X2_placeOfName (l : Launch) (D : va_G) (cI cJ : ClassId) (h0 q1 q2 q3 sz : Nat) (g : CS) (x1 : Int32) (x2 : Int32) (r : Int32) (hf : f_X2_placeOfName x1 x2 g = some r) : Met l yX2_placeOfName wsX2_placeOfName { frames := 3, cells := 0, slots := 0, locals := 64 } (gPc D (gT cI cJ) sz (wC h0 q1 q2 q3 cJ g) [.ref h0, .int x1, .int x2]) (gQi D (gT cI cJ) (va_A (wC h0 q1 q2 q3 cJ g) sz) r (wC h0 q1 q2 q3 cJ g)) 0 0 (va_A (wC h0 q1 q2 q3 cJ g) sz) := by
  refine gMet (cc := cX2_placeOfName) (maxL := 4) (ret := (some .int)) (by decide) rfl ?_ (Nat.le_of_ble_eq_true rfl)
  intro p e0 s m below meth c ls B hr hlk hsz hK hG hl
  have hA : ∀ q : Nat, s.heap.size ≤ q → va_A (wC h0 q1 q2 q3 cJ g) sz q := fun q h => Or.inr (hsz ▸ h)
  have hx := B.1
  have hb := B.2.1
  have hts := B.2.2.2.2
  have hl : lv_has ls 4 [(0, .ref h0), (1, .int x1), (2, .int x2)] := hl
  generalize va_A (wC h0 q1 q2 q3 cJ g) sz = A at hA hG ⊢
  have L2 : ∀ (res : ((Int32) ⊕ (Unit))) (y1_2 : Int32) (y2_2 : Int32), (∀ v, res = .inl v → v = r) → (∀ (H1 : Heap) (locs1 : List Loc) (ls1 : Array Slot) (e : Unit), res = .inr e → gG D A s.heap (wC h0 q1 q2 q3 cJ g) H1 locs1 → lv_has ls1 4 [] → W p l e0 { frames := 3, cells := 0, slots := 0, locals := 64 } s m ([.ref h0, .int x1, .int x2] : List Value).toArray below meth c H1 locs1 0 0 (MQ below (gQi D (gT cI cJ) A r (wC h0 q1 q2 q3 cJ g)) ([.ref h0, .int x1, .int x2] : List Value).toArray s 0 0 A) (F0 m 29 ls1 [])) → ∀ (n : Nat) (y3_2 : Int32) (H : Heap) (locs : List Loc) (ls : Array Slot), gG D A s.heap (wC h0 q1 q2 q3 cJ g) H locs → lv_has ls 4 [(0, .ref h0), (1, .int y1_2), (2, .int y2_2), (3, .int y3_2)] → itl (fun a : Int32 => b_X2_placeOfName_2 y1_2 y2_2 g a) n y3_2 = some res → W p l e0 { frames := 3, cells := 0, slots := 0, locals := 64 } s m ([.ref h0, .int x1, .int x2] : List Value).toArray below meth c H locs 0 0 (MQ below (gQi D (gT cI cJ) A r (wC h0 q1 q2 q3 cJ g)) ([.ref h0, .int x1, .int x2] : List Value).toArray s 0 0 A) (F0 m 2 ls []) := by
    intro res y1_2 y2_2 hKr2 hKe2 n
    induction n with
    | zero => exact fun y3_2 H locs ls hG hl hf => (itl_0 hf).elim
    | succ n ih =>
      intro y3_2 H locs ls hG hl hf
      obtain ⟨o, hf, ho2, hn2⟩ := itl_s hf
      have hf : b_X2_placeOfName_2 y1_2 y2_2 g y3_2 = some o := hf
      unfold b_X2_placeOfName_2 at hf
      refine lv_iload_n hx hb dX2_placeOfName_2 rfl (lv_at hl 3 rfl) ?_
      refine lv_bipush (v := 8) hx hb dX2_placeOfName_3 (by decide) ?_
      refine lv_icmp_ge (tgt := 29) hx hb dX2_placeOfName_5 (by decide) (fun cq_1 => ?_) (fun cq_1 => ?_)
      · have hf := ifT cq_1 hf
        have hres := ho2 _ (Option.some.inj hf).symm
        exact hKe2 _ _ _ () hres.symm hG (lv_sub hl [] rfl)
      · have hf := ifF cq_1 hf
        refine lv_aload_n hx hb dX2_placeOfName_8 rfl (lv_at hl 0 rfl) ?_
        refine lv_iload_n hx hb dX2_placeOfName_9 rfl (lv_at hl 1 rfl) ?_
        refine lv_iload_n hx hb dX2_placeOfName_10 rfl (lv_at hl 3 rfl) ?_
        refine gc_Vi hA hK hl.1 hG B (c_X2_placeOf l D cI cJ h0 q1 q2 q3 _ g y1_2 y3_2 _ rfl) (cwV 2 hts gX2_placeOfName_X2_placeOf rfl rfl rfl (by decide +kernel) ⟨by decide, by decide⟩) 0 rfl rfl rfl rfl rfl (Nat.le_of_ble_eq_true rfl) dX2_placeOfName_11 ⟨Nat.zero_le _, Nat.zero_le _⟩ (fun H locs hG => ?_)
        refine gc_Si hA hK hl.1 hG B (c_X2_nameOfEntry l D (gT cI cJ) _ (wC h0 q1 q2 q3 cJ g) (f_X2_placeOf y1_2 y3_2 g) _ rfl) (va_cwS 1 hts gX2_placeOfName_X2_nameOfEntry rfl rfl rfl (by decide +kernel) ⟨by decide, by decide⟩) rfl rfl (Nat.le_of_ble_eq_true rfl) dX2_placeOfName_14 ⟨Nat.zero_le _, Nat.zero_le _⟩ (fun H locs hG => ?_)
        refine lv_iload_n hx hb dX2_placeOfName_17 rfl (lv_at hl 2 rfl) ?_
        refine lv_icmp_ne (tgt := 23) hx hb dX2_placeOfName_18 (by decide) (fun cq_2 => ?_) (fun cq_2 => ?_)
        · have hf := ifF cq_2 hf
          refine lv_iinc (v := (y3_2 + (1 : Int32))) (lv' := [(3, .int (y3_2 + (1 : Int32))), (0, .ref h0), (1, .int y1_2), (2, .int y2_2)]) hx hb dX2_placeOfName_23 hl (k := 3) rfl rfl (by decide) rfl (fun ls hl => ?_)
          refine lv_goto (tgt := 2) hx hb dX2_placeOfName_26 (by decide) ?_
          have hn := hn2 _ (Option.some.inj hf).symm
          exact ih (y3_2 + (1 : Int32)) _ _ _ hG (lv_sub hl [1, 2, 3, 0] rfl) hn
        · have hf := ifT cq_2 hf
          refine lv_iload_n hx hb dX2_placeOfName_21 rfl (lv_at hl 3 rfl) ?_
          have hf := hKr2 _ (ho2 _ (Option.some.inj hf).symm).symm
          exact g_iret hr hlk hK hG B rfl hf dX2_placeOfName_22
  unfold f_X2_placeOfName at hf
  refine lv_iconst (v := 0) hx hb dX2_placeOfName_0 (by decide) ?_
  refine lv_istore_n (lv' := [(3, .int (0 : Int32)), (0, .ref h0), (1, .int x1), (2, .int x2)]) hx hb dX2_placeOfName_1 rfl hl (by decide) rfl (fun ls hl => ?_)
  obtain ⟨zv_3, hizv_3, hf⟩ := ob hf
  refine L2 zv_3 x1 x2 (fun v hres => by subst hres; have hf := se_l hf; exact Option.some.inj hf) (fun H locs ls ev_3 hres hG hl => ?_) 300 (0 : Int32) _ _ _ hG (lv_sub hl [1, 2, 3, 0] rfl) hizv_3
  have hres := hres.symm
  subst hres
  have hf := se_r hf
  refine lv_bipush (v := -3) hx hb dX2_placeOfName_29 (by decide) ?_
  have hf := Option.some.inj hf
  exact g_iret hr hlk hK hG B rfl hf dX2_placeOfName_31
def b_X2_leastInodeOfNoKind_2  (g : CS) (y1_2 : Int32) : Option (((Int32) ⊕ (Unit)) ⊕ (Int32)) := (if (12 : Int32) ≤ y1_2 then some (.inl (.inr ())) else (if (f_X2_kindOf y1_2 g) = (0 : Int32) then some (.inl (.inl y1_2)) else some (.inr (y1_2 + (1 : Int32)))))
def f_X2_leastInodeOfNoKind  (g : CS) : Option Int32 := ((itl (fun a : Int32 => b_X2_leastInodeOfNoKind_2  g a) 300 (0 : Int32)).bind (fun zv_3 => Sum.elim (fun v => some v) (fun ev_3 => some (-3 : Int32)) zv_3))
set_option maxHeartbeats 4000000 in
set_option maxRecDepth 100000 in
theorem c_X2_leastInodeOfNoKind (l : Launch) (D : va_G) (cI cJ : ClassId) (h0 q1 q2 q3 sz : Nat) (g : CS)  (r : Int32) (hf : f_X2_leastInodeOfNoKind  g = some r) : Met l yX2_leastInodeOfNoKind wsX2_leastInodeOfNoKind { frames := 2, cells := 0, slots := 0, locals := 42 } (gPc D (gT cI cJ) sz (wC h0 q1 q2 q3 cJ g) [.ref h0]) (gQi D (gT cI cJ) (va_A (wC h0 q1 q2 q3 cJ g) sz) r (wC h0 q1 q2 q3 cJ g)) 0 0 (va_A (wC h0 q1 q2 q3 cJ g) sz) := by
  refine gMet (cc := cX2_leastInodeOfNoKind) (maxL := 2) (ret := (some .int)) (by decide) rfl ?_ (Nat.le_of_ble_eq_true rfl)
  intro p e0 s m below meth c ls B hr hlk hsz hK hG hl
  have hA : ∀ q : Nat, s.heap.size ≤ q → va_A (wC h0 q1 q2 q3 cJ g) sz q := fun q h => Or.inr (hsz ▸ h)
  have hx := B.1
  have hb := B.2.1
  have hts := B.2.2.2.2
  have hl : lv_has ls 2 [(0, .ref h0)] := hl
  generalize va_A (wC h0 q1 q2 q3 cJ g) sz = A at hA hG ⊢
  have L2 : ∀ (res : ((Int32) ⊕ (Unit))) , (∀ v, res = .inl v → v = r) → (∀ (H1 : Heap) (locs1 : List Loc) (ls1 : Array Slot) (e : Unit), res = .inr e → gG D A s.heap (wC h0 q1 q2 q3 cJ g) H1 locs1 → lv_has ls1 2 [] → W p l e0 { frames := 2, cells := 0, slots := 0, locals := 42 } s m ([.ref h0] : List Value).toArray below meth c H1 locs1 0 0 (MQ below (gQi D (gT cI cJ) A r (wC h0 q1 q2 q3 cJ g)) ([.ref h0] : List Value).toArray s 0 0 A) (F0 m 24 ls1 [])) → ∀ (n : Nat) (y1_2 : Int32) (H : Heap) (locs : List Loc) (ls : Array Slot), gG D A s.heap (wC h0 q1 q2 q3 cJ g) H locs → lv_has ls 2 [(0, .ref h0), (1, .int y1_2)] → itl (fun a : Int32 => b_X2_leastInodeOfNoKind_2  g a) n y1_2 = some res → W p l e0 { frames := 2, cells := 0, slots := 0, locals := 42 } s m ([.ref h0] : List Value).toArray below meth c H locs 0 0 (MQ below (gQi D (gT cI cJ) A r (wC h0 q1 q2 q3 cJ g)) ([.ref h0] : List Value).toArray s 0 0 A) (F0 m 2 ls []) := by
    intro res  hKr2 hKe2 n
    induction n with
    | zero => exact fun y1_2 H locs ls hG hl hf => (itl_0 hf).elim
    | succ n ih =>
      intro y1_2 H locs ls hG hl hf
      obtain ⟨o, hf, ho2, hn2⟩ := itl_s hf
      have hf : b_X2_leastInodeOfNoKind_2  g y1_2 = some o := hf
      unfold b_X2_leastInodeOfNoKind_2 at hf
      refine lv_iload_n hx hb dX2_leastInodeOfNoKind_2 rfl (lv_at hl 1 rfl) ?_
      refine lv_bipush (v := 12) hx hb dX2_leastInodeOfNoKind_3 (by decide) ?_
      refine lv_icmp_ge (tgt := 24) hx hb dX2_leastInodeOfNoKind_5 (by decide) (fun cq_1 => ?_) (fun cq_1 => ?_)
      · have hf := ifT cq_1 hf
        have hres := ho2 _ (Option.some.inj hf).symm
        exact hKe2 _ _ _ () hres.symm hG (lv_sub hl [] rfl)
      · have hf := ifF cq_1 hf
        refine lv_aload_n hx hb dX2_leastInodeOfNoKind_8 rfl (lv_at hl 0 rfl) ?_
        refine lv_iload_n hx hb dX2_leastInodeOfNoKind_9 rfl (lv_at hl 1 rfl) ?_
        refine gc_Vi hA hK hl.1 hG B (c_X2_kindOf l D cI cJ h0 q1 q2 q3 _ g y1_2 _ rfl) (cwV 1 hts gX2_leastInodeOfNoKind_X2_kindOf rfl rfl rfl (by decide +kernel) ⟨by decide, by decide⟩) 0 rfl rfl rfl rfl rfl (Nat.le_of_ble_eq_true rfl) dX2_leastInodeOfNoKind_10 ⟨Nat.zero_le _, Nat.zero_le _⟩ (fun H locs hG => ?_)
        refine lv_if_ne (tgt := 18) hx hb dX2_leastInodeOfNoKind_13 (by decide) (fun cq_2 => ?_) (fun cq_2 => ?_)
        · have hf := ifF cq_2 hf
          refine lv_iinc (v := (y1_2 + (1 : Int32))) (lv' := [(1, .int (y1_2 + (1 : Int32))), (0, .ref h0)]) hx hb dX2_leastInodeOfNoKind_18 hl (k := 1) rfl rfl (by decide) rfl (fun ls hl => ?_)
          refine lv_goto (tgt := 2) hx hb dX2_leastInodeOfNoKind_21 (by decide) ?_
          have hn := hn2 _ (Option.some.inj hf).symm
          exact ih (y1_2 + (1 : Int32)) _ _ _ hG (lv_sub hl [1, 0] rfl) hn
        · have hf := ifT cq_2 hf
          refine lv_iload_n hx hb dX2_leastInodeOfNoKind_16 rfl (lv_at hl 1 rfl) ?_
          have hf := hKr2 _ (ho2 _ (Option.some.inj hf).symm).symm
          exact g_iret hr hlk hK hG B rfl hf dX2_leastInodeOfNoKind_17
  unfold f_X2_leastInodeOfNoKind at hf
  refine lv_iconst (v := 0) hx hb dX2_leastInodeOfNoKind_0 (by decide) ?_
  refine lv_istore_n (lv' := [(1, .int (0 : Int32)), (0, .ref h0)]) hx hb dX2_leastInodeOfNoKind_1 rfl hl (by decide) rfl (fun ls hl => ?_)
  obtain ⟨zv_3, hizv_3, hf⟩ := ob hf
  refine L2 zv_3  (fun v hres => by subst hres; have hf := se_l hf; exact Option.some.inj hf) (fun H locs ls ev_3 hres hG hl => ?_) 300 (0 : Int32) _ _ _ hG (lv_sub hl [1, 0] rfl) hizv_3
  have hres := hres.symm
  subst hres
  have hf := se_r hf
  refine lv_bipush (v := -3) hx hb dX2_leastInodeOfNoKind_24 (by decide) ?_
  have hf := Option.some.inj hf
  exact g_iret hr hlk hK hG B rfl hf dX2_leastInodeOfNoKind_26
def b_X2_leastPlaceWithoutEntry_2 (y1_2 : Int32) (g : CS) (y2_2 : Int32) : Option (((Int32) ⊕ (Unit)) ⊕ (Int32)) := (if (8 : Int32) ≤ y2_2 then some (.inl (.inr ())) else (if (f_X2_placeOf y1_2 y2_2 g) = (0 : Int32) then some (.inl (.inl y2_2)) else some (.inr (y2_2 + (1 : Int32)))))
def f_X2_leastPlaceWithoutEntry (x1 : Int32) (g : CS) : Option Int32 := ((itl (fun a : Int32 => b_X2_leastPlaceWithoutEntry_2 x1 g a) 300 (0 : Int32)).bind (fun zv_3 => Sum.elim (fun v => some v) (fun ev_3 => some (-3 : Int32)) zv_3))
set_option maxHeartbeats 4000000 in
set_option maxRecDepth 100000 in
theorem c_X2_leastPlaceWithoutEntry (l : Launch) (D : va_G) (cI cJ : ClassId) (h0 q1 q2 q3 sz : Nat) (g : CS) (x1 : Int32) (r : Int32) (hf : f_X2_leastPlaceWithoutEntry x1 g = some r) : Met l yX2_leastPlaceWithoutEntry wsX2_leastPlaceWithoutEntry { frames := 3, cells := 0, slots := 0, locals := 64 } (gPc D (gT cI cJ) sz (wC h0 q1 q2 q3 cJ g) [.ref h0, .int x1]) (gQi D (gT cI cJ) (va_A (wC h0 q1 q2 q3 cJ g) sz) r (wC h0 q1 q2 q3 cJ g)) 0 0 (va_A (wC h0 q1 q2 q3 cJ g) sz) := by
  refine gMet (cc := cX2_leastPlaceWithoutEntry) (maxL := 3) (ret := (some .int)) (by decide) rfl ?_ (Nat.le_of_ble_eq_true rfl)
  intro p e0 s m below meth c ls B hr hlk hsz hK hG hl
  have hA : ∀ q : Nat, s.heap.size ≤ q → va_A (wC h0 q1 q2 q3 cJ g) sz q := fun q h => Or.inr (hsz ▸ h)
  have hx := B.1
  have hb := B.2.1
  have hts := B.2.2.2.2
  have hl : lv_has ls 3 [(0, .ref h0), (1, .int x1)] := hl
  generalize va_A (wC h0 q1 q2 q3 cJ g) sz = A at hA hG ⊢
  have L2 : ∀ (res : ((Int32) ⊕ (Unit))) (y1_2 : Int32), (∀ v, res = .inl v → v = r) → (∀ (H1 : Heap) (locs1 : List Loc) (ls1 : Array Slot) (e : Unit), res = .inr e → gG D A s.heap (wC h0 q1 q2 q3 cJ g) H1 locs1 → lv_has ls1 3 [] → W p l e0 { frames := 3, cells := 0, slots := 0, locals := 64 } s m ([.ref h0, .int x1] : List Value).toArray below meth c H1 locs1 0 0 (MQ below (gQi D (gT cI cJ) A r (wC h0 q1 q2 q3 cJ g)) ([.ref h0, .int x1] : List Value).toArray s 0 0 A) (F0 m 25 ls1 [])) → ∀ (n : Nat) (y2_2 : Int32) (H : Heap) (locs : List Loc) (ls : Array Slot), gG D A s.heap (wC h0 q1 q2 q3 cJ g) H locs → lv_has ls 3 [(0, .ref h0), (1, .int y1_2), (2, .int y2_2)] → itl (fun a : Int32 => b_X2_leastPlaceWithoutEntry_2 y1_2 g a) n y2_2 = some res → W p l e0 { frames := 3, cells := 0, slots := 0, locals := 64 } s m ([.ref h0, .int x1] : List Value).toArray below meth c H locs 0 0 (MQ below (gQi D (gT cI cJ) A r (wC h0 q1 q2 q3 cJ g)) ([.ref h0, .int x1] : List Value).toArray s 0 0 A) (F0 m 2 ls []) := by
    intro res y1_2 hKr2 hKe2 n
    induction n with
    | zero => exact fun y2_2 H locs ls hG hl hf => (itl_0 hf).elim
    | succ n ih =>
      intro y2_2 H locs ls hG hl hf
      obtain ⟨o, hf, ho2, hn2⟩ := itl_s hf
      have hf : b_X2_leastPlaceWithoutEntry_2 y1_2 g y2_2 = some o := hf
      unfold b_X2_leastPlaceWithoutEntry_2 at hf
      refine lv_iload_n hx hb dX2_leastPlaceWithoutEntry_2 rfl (lv_at hl 2 rfl) ?_
      refine lv_bipush (v := 8) hx hb dX2_leastPlaceWithoutEntry_3 (by decide) ?_
      refine lv_icmp_ge (tgt := 25) hx hb dX2_leastPlaceWithoutEntry_5 (by decide) (fun cq_1 => ?_) (fun cq_1 => ?_)
      · have hf := ifT cq_1 hf
        have hres := ho2 _ (Option.some.inj hf).symm
        exact hKe2 _ _ _ () hres.symm hG (lv_sub hl [] rfl)
      · have hf := ifF cq_1 hf
        refine lv_aload_n hx hb dX2_leastPlaceWithoutEntry_8 rfl (lv_at hl 0 rfl) ?_
        refine lv_iload_n hx hb dX2_leastPlaceWithoutEntry_9 rfl (lv_at hl 1 rfl) ?_
        refine lv_iload_n hx hb dX2_leastPlaceWithoutEntry_10 rfl (lv_at hl 2 rfl) ?_
        refine gc_Vi hA hK hl.1 hG B (c_X2_placeOf l D cI cJ h0 q1 q2 q3 _ g y1_2 y2_2 _ rfl) (cwV 2 hts gX2_leastPlaceWithoutEntry_X2_placeOf rfl rfl rfl (by decide +kernel) ⟨by decide, by decide⟩) 0 rfl rfl rfl rfl rfl (Nat.le_of_ble_eq_true rfl) dX2_leastPlaceWithoutEntry_11 ⟨Nat.zero_le _, Nat.zero_le _⟩ (fun H locs hG => ?_)
        refine lv_if_ne (tgt := 19) hx hb dX2_leastPlaceWithoutEntry_14 (by decide) (fun cq_2 => ?_) (fun cq_2 => ?_)
        · have hf := ifF cq_2 hf
          refine lv_iinc (v := (y2_2 + (1 : Int32))) (lv' := [(2, .int (y2_2 + (1 : Int32))), (0, .ref h0), (1, .int y1_2)]) hx hb dX2_leastPlaceWithoutEntry_19 hl (k := 2) rfl rfl (by decide) rfl (fun ls hl => ?_)
          refine lv_goto (tgt := 2) hx hb dX2_leastPlaceWithoutEntry_22 (by decide) ?_
          have hn := hn2 _ (Option.some.inj hf).symm
          exact ih (y2_2 + (1 : Int32)) _ _ _ hG (lv_sub hl [1, 2, 0] rfl) hn
        · have hf := ifT cq_2 hf
          refine lv_iload_n hx hb dX2_leastPlaceWithoutEntry_17 rfl (lv_at hl 2 rfl) ?_
          have hf := hKr2 _ (ho2 _ (Option.some.inj hf).symm).symm
          exact g_iret hr hlk hK hG B rfl hf dX2_leastPlaceWithoutEntry_18
  unfold f_X2_leastPlaceWithoutEntry at hf
  refine lv_iconst (v := 0) hx hb dX2_leastPlaceWithoutEntry_0 (by decide) ?_
  refine lv_istore_n (lv' := [(2, .int (0 : Int32)), (0, .ref h0), (1, .int x1)]) hx hb dX2_leastPlaceWithoutEntry_1 rfl hl (by decide) rfl (fun ls hl => ?_)
  obtain ⟨zv_3, hizv_3, hf⟩ := ob hf
  refine L2 zv_3 x1 (fun v hres => by subst hres; have hf := se_l hf; exact Option.some.inj hf) (fun H locs ls ev_3 hres hG hl => ?_) 300 (0 : Int32) _ _ _ hG (lv_sub hl [1, 2, 0] rfl) hizv_3
  have hres := hres.symm
  subst hres
  have hf := se_r hf
  refine lv_bipush (v := -3) hx hb dX2_leastPlaceWithoutEntry_25 (by decide) ?_
  have hf := Option.some.inj hf
  exact g_iret hr hlk hK hG B rfl hf dX2_leastPlaceWithoutEntry_27
def f_X2_entryOf (x0 : Int32) (x1 : Int32) : Int32 := ((x0 * (100 : Int32)) + x1)
set_option maxHeartbeats 4000000 in
set_option maxRecDepth 100000 in
theorem c_X2_entryOf (l : Launch) (D : va_G) (tys : List (ClassId × FieldType)) (sz : Nat) (w : va_W) (x0 : Int32) (x1 : Int32) (r : Int32) (hf : f_X2_entryOf x0 x1 = r) : Met l yX2_entryOf wsX2_entryOf { frames := 0, cells := 0, slots := 0, locals := 0 } (gPc D tys sz w [.int x0, .int x1]) (gQi D tys (va_A w sz) r w) 0 0 (va_A w sz) := by
  refine gMet (cc := cX2_entryOf) (maxL := 2) (ret := (some .int)) (by decide) rfl ?_ (Nat.le_of_ble_eq_true rfl)
  intro p e0 s m below meth c ls B hr hlk hsz hK hG hl
  have hA : ∀ q : Nat, s.heap.size ≤ q → va_A w sz q := fun q h => Or.inr (hsz ▸ h)
  have hx := B.1
  have hb := B.2.1
  have hts := B.2.2.2.2
  have hl : lv_has ls 2 [(0, .int x0), (1, .int x1)] := hl
  generalize va_A w sz = A at hA hG ⊢
  unfold f_X2_entryOf at hf
  refine lv_iload_n hx hb dX2_entryOf_0 rfl (lv_at hl 0 rfl) ?_
  refine lv_bipush (v := 100) hx hb dX2_entryOf_1 (by decide) ?_
  refine lv_imul hx hb dX2_entryOf_3 ?_
  refine lv_iload_n hx hb dX2_entryOf_4 rfl (lv_at hl 1 rfl) ?_
  refine lv_iadd hx hb dX2_entryOf_5 ?_
  exact g_iret hr hlk hK hG B rfl hf dX2_entryOf_6
def f_X2_answerOrDown (x1 : Int32) (g : CS) : Int32 := (if (C_down g) = (0 : Int32) then x1 else (-2 : Int32))
set_option maxHeartbeats 4000000 in
set_option maxRecDepth 100000 in
theorem c_X2_answerOrDown (l : Launch) (D : va_G) (cI cJ : ClassId) (h0 q1 q2 q3 sz : Nat) (g : CS) (x1 : Int32) (r : Int32) (hf : f_X2_answerOrDown x1 g = r) : Met l yX2_answerOrDown wsX2_answerOrDown { frames := 0, cells := 0, slots := 0, locals := 0 } (gPc D (gT cI cJ) sz (wC h0 q1 q2 q3 cJ g) [.ref h0, .int x1]) (gQi D (gT cI cJ) (va_A (wC h0 q1 q2 q3 cJ g) sz) r (wC h0 q1 q2 q3 cJ g)) 0 0 (va_A (wC h0 q1 q2 q3 cJ g) sz) := by
  refine gMet (cc := cX2_answerOrDown) (maxL := 2) (ret := (some .int)) (by decide) rfl ?_ (Nat.le_of_ble_eq_true rfl)
  intro p e0 s m below meth c ls B hr hlk hsz hK hG hl
  have hA : ∀ q : Nat, s.heap.size ≤ q → va_A (wC h0 q1 q2 q3 cJ g) sz q := fun q h => Or.inr (hsz ▸ h)
  have hx := B.1
  have hb := B.2.1
  have hts := B.2.2.2.2
  have hl : lv_has ls 2 [(0, .ref h0), (1, .int x1)] := hl
  generalize va_A (wC h0 q1 q2 q3 cJ g) sz = A at hA hG ⊢
  have hinX0 : ∀ x ∈ wsX00, x ∈ wsX2_answerOrDown := by decide +kernel
  have hinX2 : ∀ x ∈ wsX20, x ∈ wsX2_answerOrDown := by decide +kernel
  have m_12 : Cond.fieldLink RX2 12 "BlockMover" "disk" "LBlockMover$Disk;" ∈ wsX2_answerOrDown := by decide +kernel
  have m_31 : Cond.fieldLink RX2 31 "BlockMover$Disk" "down" "Z" ∈ wsX2_answerOrDown := by decide +kernel
  unfold f_X2_answerOrDown at hf
  refine lv_aload_n hx hb dX2_answerOrDown_0 rfl (lv_at hl 0 rfl) ?_
  refine g_get hK hG B hinX2 0 rfl rfl 0 (by decide) m_12 rfl dX2_answerOrDown_1 ?_
  refine g_get hK hG B hinX0 1 rfl rfl 3 (by decide) m_31 rfl dX2_answerOrDown_4 ?_
  refine lv_if_eq (tgt := 15) hx hb dX2_answerOrDown_7 (by decide) (fun cq_1 => ?_) (fun cq_1 => ?_)
  · have hf := ifT cq_1 hf
    refine lv_iload_n hx hb dX2_answerOrDown_15 rfl (lv_at hl 1 rfl) ?_
    exact g_iret hr hlk hK hG B rfl hf dX2_answerOrDown_16
  · have hf := ifF cq_1 hf
    refine lv_bipush (v := -2) hx hb dX2_answerOrDown_10 (by decide) ?_
    refine lv_goto (tgt := 16) hx hb dX2_answerOrDown_12 (by decide) ?_
    exact g_iret hr hlk hK hG B rfl hf dX2_answerOrDown_16
