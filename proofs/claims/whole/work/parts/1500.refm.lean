def f_X3_in (x0 : Int64) (x2 : Int64) (x4 : Int64) : Int32 := (if (lg_cmp x0 x2) < (0 : Int32) then (0 : Int32) else (if (0 : Int32) < (lg_cmp x0 x4) then (0 : Int32) else (1 : Int32)))
theorem bz_X3_in (a b c : Int64) : narrow .boolean (.int (f_X3_in a b c)) = .int (f_X3_in a b c) := by unfold f_X3_in; repeat (first | rfl | split)
set_option maxHeartbeats 4000000 in
set_option maxRecDepth 100000 in
theorem c_X3_in (l : Launch) (D : va_G) (tys : List (ClassId × FieldType)) (sz : Nat) (w : va_W) (x0 : Int64) (x2 : Int64) (x4 : Int64) (r : Int32) (hf : f_X3_in x0 x2 x4 = r) : Met l yX3_in wsX3_in { frames := 0, cells := 0, slots := 0, locals := 0 } (gPc D tys sz w [.long x0, .long x2, .long x4]) (gQi D tys (va_A w sz) r w) 0 0 (va_A w sz) := by
  refine gMet (cc := cX3_in) (maxL := 6) (ret := (some .boolean)) (by decide) rfl ?_ (Nat.le_of_ble_eq_true rfl)
  intro p e0 s m below meth c ls B hr hlk hsz hK hG hl
  have hA : ∀ q : Nat, s.heap.size ≤ q → va_A w sz q := fun q h => Or.inr (hsz ▸ h)
  have hx := B.1
  have hb := B.2.1
  have hts := B.2.2.2.2
  have hl : lv_has ls 6 [(0, .long x0), (2, .long x2), (4, .long x4)] := hl
  generalize va_A w sz = A at hA hG ⊢
  unfold f_X3_in at hf
  refine lv_lload_n hx hb dX3_in_0 rfl (lv_at hl 0 rfl) ?_
  refine lv_lload_n hx hb dX3_in_1 rfl (lv_at hl 1 rfl) ?_
  refine W.lcmp hx hb dX3_in_2 ?_
  refine lv_if_lt (tgt := 17) hx hb dX3_in_3 (by decide) (fun cq_1 => ?_) (fun cq_1 => ?_)
  · have hf := ifT cq_1 hf
    refine lv_iconst (v := 0) hx hb dX3_in_17 (by decide) ?_
    exact g_iret hr hlk hK hG B rfl hf dX3_in_18
  · have hf := ifF cq_1 hf
    refine lv_lload_n hx hb dX3_in_6 rfl (lv_at hl 0 rfl) ?_
    refine lv_lload hx hb dX3_in_7 (lv_at hl 2 rfl) ?_
    refine W.lcmp hx hb dX3_in_9 ?_
    refine lv_if_gt (tgt := 17) hx hb dX3_in_10 (by decide) (fun cq_2 => ?_) (fun cq_2 => ?_)
    · have hf := ifT cq_2 hf
      refine lv_iconst (v := 0) hx hb dX3_in_17 (by decide) ?_
      exact g_iret hr hlk hK hG B rfl hf dX3_in_18
    · have hf := ifF cq_2 hf
      refine lv_iconst (v := 1) hx hb dX3_in_13 (by decide) ?_
      refine lv_goto (tgt := 18) hx hb dX3_in_14 (by decide) ?_
      exact g_iret hr hlk hK hG B rfl hf dX3_in_18
def f_X3_power  (g : RS) : (Int32 × RS) := (if (R_down g) = (0 : Int32) then (if (R_left g) = (0 : Int32) then ((0 : Int32), (sR_left (-3 : Int32) (sR_down (1 : Int32) g))) else (if (R_left g) ≤ (0 : Int32) then ((1 : Int32), (sR_wr ((R_wr (sR_left ((R_left g) - (0 : Int32)) g)) + (1 : Int32)) (sR_left ((R_left g) - (0 : Int32)) g))) else ((1 : Int32), (sR_wr ((R_wr (sR_left ((R_left g) - (1 : Int32)) g)) + (1 : Int32)) (sR_left ((R_left g) - (1 : Int32)) g))))) else ((0 : Int32), g))
set_option maxHeartbeats 4000000 in
set_option maxRecDepth 100000 in
theorem c_X3_power (l : Launch) (D : va_G) (cI cJ : ClassId) (h0 qk qs qp qw qr qo qn sz : Nat) (g : RS)  (r : Int32) (g1 : RS) (hf : f_X3_power  g = (r, g1)) : Met l yX3_power wsX3_power { frames := 0, cells := 0, slots := 0, locals := 0 } (gPc D (gT cI cJ) sz (wR h0 qk qs qp qw qr qo qn cI cJ g) [.ref h0]) (gQi D (gT cI cJ) (va_A (wR h0 qk qs qp qw qr qo qn cI cJ g) sz) r (wR h0 qk qs qp qw qr qo qn cI cJ g1)) 0 0 (va_A (wR h0 qk qs qp qw qr qo qn cI cJ g) sz) := by
  refine gMet (cc := cX3_power) (maxL := 1) (ret := (some .boolean)) (by decide) rfl ?_ (Nat.le_of_ble_eq_true rfl)
  intro p e0 s m below meth c ls B hr hlk hsz hK hG hl
  have hA : ∀ q : Nat, s.heap.size ≤ q → va_A (wR h0 qk qs qp qw qr qo qn cI cJ g) sz q := fun q h => Or.inr (hsz ▸ h)
  have hx := B.1
  have hb := B.2.1
  have hts := B.2.2.2.2
  have hl : lv_has ls 1 [(0, .ref h0)] := hl
  generalize va_A (wR h0 qk qs qp qw qr qo qn cI cJ g) sz = A at hA hG ⊢
  have hinX3 : ∀ x ∈ wsX30, x ∈ wsX3_power := by decide +kernel
  have m_26 : Cond.fieldLink RX3 26 "BlockMoverModel" "left" "I" ∈ wsX3_power := by decide +kernel
  have m_36 : Cond.fieldLink RX3 36 "BlockMoverModel" "down" "Z" ∈ wsX3_power := by decide +kernel
  have m_40 : Cond.fieldLink RX3 40 "BlockMoverModel" "writes" "I" ∈ wsX3_power := by decide +kernel
  unfold f_X3_power at hf
  refine lv_aload_n hx hb dX3_power_0 rfl (lv_at hl 0 rfl) ?_
  refine g_get hK hG B hinX3 0 rfl rfl 5 (by decide) m_36 rfl dX3_power_1 ?_
  refine lv_if_eq (tgt := 9) hx hb dX3_power_4 (by decide) (fun cq_1 => ?_) (fun cq_1 => ?_)
  · have hf := ifT cq_1 hf
    refine lv_aload_n hx hb dX3_power_9 rfl (lv_at hl 0 rfl) ?_
    refine g_get hK hG B hinX3 0 rfl rfl 6 (by decide) m_26 rfl dX3_power_10 ?_
    refine lv_if_ne (tgt := 29) hx hb dX3_power_13 (by decide) (fun cq_2 => ?_) (fun cq_2 => ?_)
    · have hf := ifF cq_2 hf
      refine lv_aload_n hx hb dX3_power_29 rfl (lv_at hl 0 rfl) ?_
      refine lv_dup hx hb dX3_power_30 rfl ?_
      refine g_get hK hG B hinX3 0 rfl rfl 6 (by decide) m_26 rfl dX3_power_31 ?_
      refine lv_aload_n hx hb dX3_power_34 rfl (lv_at hl 0 rfl) ?_
      refine g_get hK hG B hinX3 0 rfl rfl 6 (by decide) m_26 rfl dX3_power_35 ?_
      refine lv_if_le (tgt := 45) hx hb dX3_power_38 (by decide) (fun cq_3 => ?_) (fun cq_3 => ?_)
      · have hf := ifT cq_3 hf
        refine lv_iconst (v := 0) hx hb dX3_power_45 (by decide) ?_
        refine lv_isub hx hb dX3_power_46 ?_
        refine gp_R_left hK hG B hinX3 m_26 dX3_power_47 (fun H locs hG => ?_)
        refine lv_aload_n hx hb dX3_power_50 rfl (lv_at hl 0 rfl) ?_
        refine lv_dup hx hb dX3_power_51 rfl ?_
        refine g_get hK hG B hinX3 0 rfl rfl 7 (by decide) m_40 rfl dX3_power_52 ?_
        refine lv_iconst (v := 1) hx hb dX3_power_55 (by decide) ?_
        refine lv_iadd hx hb dX3_power_56 ?_
        refine gp_R_wr hK hG B hinX3 m_40 dX3_power_57 (fun H locs hG => ?_)
        refine lv_iconst (v := 1) hx hb dX3_power_60 (by decide) ?_
        obtain ⟨e1, e2⟩ := Prod.mk.inj hf
        subst e2
        exact g_iret hr hlk hK hG B rfl e1 dX3_power_61
      · have hf := ifF cq_3 hf
        refine lv_iconst (v := 1) hx hb dX3_power_41 (by decide) ?_
        refine lv_goto (tgt := 46) hx hb dX3_power_42 (by decide) ?_
        refine lv_isub hx hb dX3_power_46 ?_
        refine gp_R_left hK hG B hinX3 m_26 dX3_power_47 (fun H locs hG => ?_)
        refine lv_aload_n hx hb dX3_power_50 rfl (lv_at hl 0 rfl) ?_
        refine lv_dup hx hb dX3_power_51 rfl ?_
        refine g_get hK hG B hinX3 0 rfl rfl 7 (by decide) m_40 rfl dX3_power_52 ?_
        refine lv_iconst (v := 1) hx hb dX3_power_55 (by decide) ?_
        refine lv_iadd hx hb dX3_power_56 ?_
        refine gp_R_wr hK hG B hinX3 m_40 dX3_power_57 (fun H locs hG => ?_)
        refine lv_iconst (v := 1) hx hb dX3_power_60 (by decide) ?_
        obtain ⟨e1, e2⟩ := Prod.mk.inj hf
        subst e2
        exact g_iret hr hlk hK hG B rfl e1 dX3_power_61
    · have hf := ifT cq_2 hf
      refine lv_aload_n hx hb dX3_power_16 rfl (lv_at hl 0 rfl) ?_
      refine lv_iconst (v := 1) hx hb dX3_power_17 (by decide) ?_
      refine gp_R_down hK hG B hinX3 m_36 rfl rfl dX3_power_18 (fun H locs hG => ?_)
      refine lv_aload_n hx hb dX3_power_21 rfl (lv_at hl 0 rfl) ?_
      refine lv_bipush (v := -3) hx hb dX3_power_22 (by decide) ?_
      refine gp_R_left hK hG B hinX3 m_26 dX3_power_24 (fun H locs hG => ?_)
      refine lv_iconst (v := 0) hx hb dX3_power_27 (by decide) ?_
      obtain ⟨e1, e2⟩ := Prod.mk.inj hf
      subst e2
      exact g_iret hr hlk hK hG B rfl e1 dX3_power_28
  · have hf := ifF cq_1 hf
    refine lv_iconst (v := 0) hx hb dX3_power_7 (by decide) ?_
    obtain ⟨e1, e2⟩ := Prod.mk.inj hf
    subst e2
    exact g_iret hr hlk hK hG B rfl e1 dX3_power_8
def f_X3_setKind (x1 : Int32) (x2 : Int32) (g : RS) : Option RS := (if (f_X3_power  g).1 = (0 : Int32) then some (f_X3_power  g).2 else (chk x1 12 (some (sR_kind (upd (R_kind (f_X3_power  g).2) x1.toNatClampNeg x2) (f_X3_power  g).2))))
set_option maxHeartbeats 4000000 in
set_option maxRecDepth 100000 in
theorem c_X3_setKind (l : Launch) (D : va_G) (cI cJ : ClassId) (h0 qk qs qp qw qr qo qn sz : Nat) (g : RS) (x1 : Int32) (x2 : Int32) (g1 : RS) (hf : f_X3_setKind x1 x2 g = some g1) : Met l yX3_setKind wsX3_setKind { frames := 1, cells := 0, slots := 0, locals := 20 } (gPc D (gT cI cJ) sz (wR h0 qk qs qp qw qr qo qn cI cJ g) [.ref h0, .int x1, .int x2]) (gQv D (gT cI cJ) (va_A (wR h0 qk qs qp qw qr qo qn cI cJ g) sz) (wR h0 qk qs qp qw qr qo qn cI cJ g1)) 0 0 (va_A (wR h0 qk qs qp qw qr qo qn cI cJ g) sz) := by
  refine gMet (cc := cX3_setKind) (maxL := 3) (ret := none) (by decide) rfl ?_ (Nat.le_of_ble_eq_true rfl)
  intro p e0 s m below meth c ls B hr hlk hsz hK hG hl
  have hA : ∀ q : Nat, s.heap.size ≤ q → va_A (wR h0 qk qs qp qw qr qo qn cI cJ g) sz q := fun q h => Or.inr (hsz ▸ h)
  have hx := B.1
  have hb := B.2.1
  have hts := B.2.2.2.2
  have hl : lv_has ls 3 [(0, .ref h0), (1, .int x1), (2, .int x2)] := hl
  generalize va_A (wR h0 qk qs qp qw qr qo qn cI cJ g) sz = A at hA hG ⊢
  have hinX3 : ∀ x ∈ wsX30, x ∈ wsX3_setKind := by decide +kernel
  have m_7 : Cond.fieldLink RX3 7 "BlockMoverModel" "kind" "[I" ∈ wsX3_setKind := by decide +kernel
  unfold f_X3_setKind at hf
  refine lv_aload_n hx hb dX3_setKind_0 rfl (lv_at hl 0 rfl) ?_
  refine gc_Vi hA hK hl.1 hG B (c_X3_power l D cI cJ h0 qk qs qp qw qr qo qn _ g  _ _ rfl) (cwV 0 hts gX3_setKind_X3_power rfl rfl rfl (by decide +kernel) ⟨by decide, by decide⟩) 0 rfl rfl rfl rfl rfl (Nat.le_of_ble_eq_true rfl) dX3_setKind_1 ⟨Nat.zero_le _, Nat.zero_le _⟩ (fun H locs hG => ?_)
  refine lv_if_eq (tgt := 14) hx hb dX3_setKind_4 (by decide) (fun cq_1 => ?_) (fun cq_1 => ?_)
  · have hf := ifT cq_1 hf
    have hf := Option.some.inj hf
    subst hf
    exact g_vret hr hlk hK hG B dX3_setKind_14
  · have hf := ifF cq_1 hf
    refine lv_aload_n hx hb dX3_setKind_7 rfl (lv_at hl 0 rfl) ?_
    refine g_get hK hG B hinX3 0 rfl rfl 0 (by decide) m_7 rfl dX3_setKind_8 ?_
    refine lv_iload_n hx hb dX3_setKind_11 rfl (lv_at hl 1 rfl) ?_
    refine lv_iload_n hx hb dX3_setKind_12 rfl (lv_at hl 2 rfl) ?_
    obtain ⟨vq_2, hf⟩ := chk_s hf
    refine ga_R_kind hK hG B vq_2 dX3_setKind_13 (fun H locs hG => ?_)
    have hf := Option.some.inj hf
    subst hf
    exact g_vret hr hlk hK hG B dX3_setKind_14
def f_X3_setSize (x1 : Int32) (x2 : Int32) (g : RS) : Option RS := (if (f_X3_power  g).1 = (0 : Int32) then some (f_X3_power  g).2 else (chk x1 12 (some (sR_size (upd (R_size (f_X3_power  g).2) x1.toNatClampNeg x2) (f_X3_power  g).2))))
set_option maxHeartbeats 4000000 in
set_option maxRecDepth 100000 in
theorem c_X3_setSize (l : Launch) (D : va_G) (cI cJ : ClassId) (h0 qk qs qp qw qr qo qn sz : Nat) (g : RS) (x1 : Int32) (x2 : Int32) (g1 : RS) (hf : f_X3_setSize x1 x2 g = some g1) : Met l yX3_setSize wsX3_setSize { frames := 1, cells := 0, slots := 0, locals := 20 } (gPc D (gT cI cJ) sz (wR h0 qk qs qp qw qr qo qn cI cJ g) [.ref h0, .int x1, .int x2]) (gQv D (gT cI cJ) (va_A (wR h0 qk qs qp qw qr qo qn cI cJ g) sz) (wR h0 qk qs qp qw qr qo qn cI cJ g1)) 0 0 (va_A (wR h0 qk qs qp qw qr qo qn cI cJ g) sz) := by
  refine gMet (cc := cX3_setSize) (maxL := 3) (ret := none) (by decide) rfl ?_ (Nat.le_of_ble_eq_true rfl)
  intro p e0 s m below meth c ls B hr hlk hsz hK hG hl
  have hA : ∀ q : Nat, s.heap.size ≤ q → va_A (wR h0 qk qs qp qw qr qo qn cI cJ g) sz q := fun q h => Or.inr (hsz ▸ h)
  have hx := B.1
  have hb := B.2.1
  have hts := B.2.2.2.2
  have hl : lv_has ls 3 [(0, .ref h0), (1, .int x1), (2, .int x2)] := hl
  generalize va_A (wR h0 qk qs qp qw qr qo qn cI cJ g) sz = A at hA hG ⊢
  have hinX3 : ∀ x ∈ wsX30, x ∈ wsX3_setSize := by decide +kernel
  have m_13 : Cond.fieldLink RX3 13 "BlockMoverModel" "size" "[I" ∈ wsX3_setSize := by decide +kernel
  unfold f_X3_setSize at hf
  refine lv_aload_n hx hb dX3_setSize_0 rfl (lv_at hl 0 rfl) ?_
  refine gc_Vi hA hK hl.1 hG B (c_X3_power l D cI cJ h0 qk qs qp qw qr qo qn _ g  _ _ rfl) (cwV 0 hts gX3_setSize_X3_power rfl rfl rfl (by decide +kernel) ⟨by decide, by decide⟩) 0 rfl rfl rfl rfl rfl (Nat.le_of_ble_eq_true rfl) dX3_setSize_1 ⟨Nat.zero_le _, Nat.zero_le _⟩ (fun H locs hG => ?_)
  refine lv_if_eq (tgt := 14) hx hb dX3_setSize_4 (by decide) (fun cq_1 => ?_) (fun cq_1 => ?_)
  · have hf := ifT cq_1 hf
    have hf := Option.some.inj hf
    subst hf
    exact g_vret hr hlk hK hG B dX3_setSize_14
  · have hf := ifF cq_1 hf
    refine lv_aload_n hx hb dX3_setSize_7 rfl (lv_at hl 0 rfl) ?_
    refine g_get hK hG B hinX3 0 rfl rfl 1 (by decide) m_13 rfl dX3_setSize_8 ?_
    refine lv_iload_n hx hb dX3_setSize_11 rfl (lv_at hl 1 rfl) ?_
    refine lv_iload_n hx hb dX3_setSize_12 rfl (lv_at hl 2 rfl) ?_
    obtain ⟨vq_2, hf⟩ := chk_s hf
    refine ga_R_size hK hG B vq_2 dX3_setSize_13 (fun H locs hG => ?_)
    have hf := Option.some.inj hf
    subst hf
    exact g_vret hr hlk hK hG B dX3_setSize_14
def f_X3_setPlace (x1 : Int32) (x2 : Int32) (x3 : Int32) (g : RS) : Option RS := (if (f_X3_power  g).1 = (0 : Int32) then some (f_X3_power  g).2 else (chk (((8 : Int32) * x1) + x2) 96 (some (sR_pl (upd (R_pl (f_X3_power  g).2) (((8 : Int32) * x1) + x2).toNatClampNeg x3) (f_X3_power  g).2))))
set_option maxHeartbeats 4000000 in
set_option maxRecDepth 100000 in
theorem c_X3_setPlace (l : Launch) (D : va_G) (cI cJ : ClassId) (h0 qk qs qp qw qr qo qn sz : Nat) (g : RS) (x1 : Int32) (x2 : Int32) (x3 : Int32) (g1 : RS) (hf : f_X3_setPlace x1 x2 x3 g = some g1) : Met l yX3_setPlace wsX3_setPlace { frames := 1, cells := 0, slots := 0, locals := 20 } (gPc D (gT cI cJ) sz (wR h0 qk qs qp qw qr qo qn cI cJ g) [.ref h0, .int x1, .int x2, .int x3]) (gQv D (gT cI cJ) (va_A (wR h0 qk qs qp qw qr qo qn cI cJ g) sz) (wR h0 qk qs qp qw qr qo qn cI cJ g1)) 0 0 (va_A (wR h0 qk qs qp qw qr qo qn cI cJ g) sz) := by
  refine gMet (cc := cX3_setPlace) (maxL := 4) (ret := none) (by decide) rfl ?_ (Nat.le_of_ble_eq_true rfl)
  intro p e0 s m below meth c ls B hr hlk hsz hK hG hl
  have hA : ∀ q : Nat, s.heap.size ≤ q → va_A (wR h0 qk qs qp qw qr qo qn cI cJ g) sz q := fun q h => Or.inr (hsz ▸ h)
  have hx := B.1
  have hb := B.2.1
  have hts := B.2.2.2.2
  have hl : lv_has ls 4 [(0, .ref h0), (1, .int x1), (2, .int x2), (3, .int x3)] := hl
  generalize va_A (wR h0 qk qs qp qw qr qo qn cI cJ g) sz = A at hA hG ⊢
  have hinX3 : ∀ x ∈ wsX30, x ∈ wsX3_setPlace := by decide +kernel
  have m_16 : Cond.fieldLink RX3 16 "BlockMoverModel" "places" "[I" ∈ wsX3_setPlace := by decide +kernel
  unfold f_X3_setPlace at hf
  refine lv_aload_n hx hb dX3_setPlace_0 rfl (lv_at hl 0 rfl) ?_
  refine gc_Vi hA hK hl.1 hG B (c_X3_power l D cI cJ h0 qk qs qp qw qr qo qn _ g  _ _ rfl) (cwV 0 hts gX3_setPlace_X3_power rfl rfl rfl (by decide +kernel) ⟨by decide, by decide⟩) 0 rfl rfl rfl rfl rfl (Nat.le_of_ble_eq_true rfl) dX3_setPlace_1 ⟨Nat.zero_le _, Nat.zero_le _⟩ (fun H locs hG => ?_)
  refine lv_if_eq (tgt := 19) hx hb dX3_setPlace_4 (by decide) (fun cq_1 => ?_) (fun cq_1 => ?_)
  · have hf := ifT cq_1 hf
    have hf := Option.some.inj hf
    subst hf
    exact g_vret hr hlk hK hG B dX3_setPlace_19
  · have hf := ifF cq_1 hf
    refine lv_aload_n hx hb dX3_setPlace_7 rfl (lv_at hl 0 rfl) ?_
    refine g_get hK hG B hinX3 0 rfl rfl 2 (by decide) m_16 rfl dX3_setPlace_8 ?_
    refine lv_bipush (v := 8) hx hb dX3_setPlace_11 (by decide) ?_
    refine lv_iload_n hx hb dX3_setPlace_13 rfl (lv_at hl 1 rfl) ?_
    refine lv_imul hx hb dX3_setPlace_14 ?_
    refine lv_iload_n hx hb dX3_setPlace_15 rfl (lv_at hl 2 rfl) ?_
    refine lv_iadd hx hb dX3_setPlace_16 ?_
    refine lv_iload_n hx hb dX3_setPlace_17 rfl (lv_at hl 3 rfl) ?_
    obtain ⟨vq_2, hf⟩ := chk_s hf
    refine ga_R_pl hK hG B vq_2 dX3_setPlace_18 (fun H locs hG => ?_)
    have hf := Option.some.inj hf
    subst hf
    exact g_vret hr hlk hK hG B dX3_setPlace_19
def f_X3_setData (x1 : Int32) (x2 : Int32) (x3 : Int64) (g : RS) : Option RS := (if (f_X3_power  g).1 = (0 : Int32) then some (f_X3_power  g).2 else (chk (((3 : Int32) * x1) + x2) 120 (some (sR_ws (vp_updL (R_ws (f_X3_power  g).2) (((3 : Int32) * x1) + x2).toNatClampNeg x3) (f_X3_power  g).2))))
set_option maxHeartbeats 4000000 in
set_option maxRecDepth 100000 in
theorem c_X3_setData (l : Launch) (D : va_G) (cI cJ : ClassId) (h0 qk qs qp qw qr qo qn sz : Nat) (g : RS) (x1 : Int32) (x2 : Int32) (x3 : Int64) (g1 : RS) (hf : f_X3_setData x1 x2 x3 g = some g1) : Met l yX3_setData wsX3_setData { frames := 1, cells := 0, slots := 0, locals := 20 } (gPc D (gT cI cJ) sz (wR h0 qk qs qp qw qr qo qn cI cJ g) [.ref h0, .int x1, .int x2, .long x3]) (gQv D (gT cI cJ) (va_A (wR h0 qk qs qp qw qr qo qn cI cJ g) sz) (wR h0 qk qs qp qw qr qo qn cI cJ g1)) 0 0 (va_A (wR h0 qk qs qp qw qr qo qn cI cJ g) sz) := by
  refine gMet (cc := cX3_setData) (maxL := 5) (ret := none) (by decide) rfl ?_ (Nat.le_of_ble_eq_true rfl)
  intro p e0 s m below meth c ls B hr hlk hsz hK hG hl
  have hA : ∀ q : Nat, s.heap.size ≤ q → va_A (wR h0 qk qs qp qw qr qo qn cI cJ g) sz q := fun q h => Or.inr (hsz ▸ h)
  have hx := B.1
  have hb := B.2.1
  have hts := B.2.2.2.2
  have hl : lv_has ls 5 [(0, .ref h0), (1, .int x1), (2, .int x2), (3, .long x3)] := hl
  generalize va_A (wR h0 qk qs qp qw qr qo qn cI cJ g) sz = A at hA hG ⊢
  have hinX3 : ∀ x ∈ wsX30, x ∈ wsX3_setData := by decide +kernel
  have m_19 : Cond.fieldLink RX3 19 "BlockMoverModel" "words" "[J" ∈ wsX3_setData := by decide +kernel
  unfold f_X3_setData at hf
  refine lv_aload_n hx hb dX3_setData_0 rfl (lv_at hl 0 rfl) ?_
  refine gc_Vi hA hK hl.1 hG B (c_X3_power l D cI cJ h0 qk qs qp qw qr qo qn _ g  _ _ rfl) (cwV 0 hts gX3_setData_X3_power rfl rfl rfl (by decide +kernel) ⟨by decide, by decide⟩) 0 rfl rfl rfl rfl rfl (Nat.le_of_ble_eq_true rfl) dX3_setData_1 ⟨Nat.zero_le _, Nat.zero_le _⟩ (fun H locs hG => ?_)
  refine lv_if_eq (tgt := 18) hx hb dX3_setData_4 (by decide) (fun cq_1 => ?_) (fun cq_1 => ?_)
  · have hf := ifT cq_1 hf
    have hf := Option.some.inj hf
    subst hf
    exact g_vret hr hlk hK hG B dX3_setData_18
  · have hf := ifF cq_1 hf
    refine lv_aload_n hx hb dX3_setData_7 rfl (lv_at hl 0 rfl) ?_
    refine g_get hK hG B hinX3 0 rfl rfl 3 (by decide) m_19 rfl dX3_setData_8 ?_
    refine lv_iconst (v := 3) hx hb dX3_setData_11 (by decide) ?_
    refine lv_iload_n hx hb dX3_setData_12 rfl (lv_at hl 1 rfl) ?_
    refine lv_imul hx hb dX3_setData_13 ?_
    refine lv_iload_n hx hb dX3_setData_14 rfl (lv_at hl 2 rfl) ?_
    refine lv_iadd hx hb dX3_setData_15 ?_
    refine lv_lload_n hx hb dX3_setData_16 rfl (lv_at hl 3 rfl) ?_
    obtain ⟨vq_2, hf⟩ := chk_s hf
    refine ga_R_ws hK hG B vq_2 dX3_setData_17 (fun H locs hG => ?_)
    have hf := Option.some.inj hf
    subst hf
    exact g_vret hr hlk hK hG B dX3_setData_18
def f_X3_setRecord (x1 : Int32) (x2 : Int32) (g : RS) : Option RS := (if (f_X3_power  g).1 = (0 : Int32) then some (f_X3_power  g).2 else (chk x1 4 (some (sR_rec (upd (R_rec (f_X3_power  g).2) x1.toNatClampNeg x2) (f_X3_power  g).2))))
set_option maxHeartbeats 4000000 in
set_option maxRecDepth 100000 in
theorem c_X3_setRecord (l : Launch) (D : va_G) (cI cJ : ClassId) (h0 qk qs qp qw qr qo qn sz : Nat) (g : RS) (x1 : Int32) (x2 : Int32) (g1 : RS) (hf : f_X3_setRecord x1 x2 g = some g1) : Met l yX3_setRecord wsX3_setRecord { frames := 1, cells := 0, slots := 0, locals := 20 } (gPc D (gT cI cJ) sz (wR h0 qk qs qp qw qr qo qn cI cJ g) [.ref h0, .int x1, .int x2]) (gQv D (gT cI cJ) (va_A (wR h0 qk qs qp qw qr qo qn cI cJ g) sz) (wR h0 qk qs qp qw qr qo qn cI cJ g1)) 0 0 (va_A (wR h0 qk qs qp qw qr qo qn cI cJ g) sz) := by
  refine gMet (cc := cX3_setRecord) (maxL := 3) (ret := none) (by decide) rfl ?_ (Nat.le_of_ble_eq_true rfl)
  intro p e0 s m below meth c ls B hr hlk hsz hK hG hl
  have hA : ∀ q : Nat, s.heap.size ≤ q → va_A (wR h0 qk qs qp qw qr qo qn cI cJ g) sz q := fun q h => Or.inr (hsz ▸ h)
  have hx := B.1
  have hb := B.2.1
  have hts := B.2.2.2.2
  have hl : lv_has ls 3 [(0, .ref h0), (1, .int x1), (2, .int x2)] := hl
  generalize va_A (wR h0 qk qs qp qw qr qo qn cI cJ g) sz = A at hA hG ⊢
  have hinX3 : ∀ x ∈ wsX30, x ∈ wsX3_setRecord := by decide +kernel
  have m_23 : Cond.fieldLink RX3 23 "BlockMoverModel" "rec" "[I" ∈ wsX3_setRecord := by decide +kernel
  unfold f_X3_setRecord at hf
  refine lv_aload_n hx hb dX3_setRecord_0 rfl (lv_at hl 0 rfl) ?_
  refine gc_Vi hA hK hl.1 hG B (c_X3_power l D cI cJ h0 qk qs qp qw qr qo qn _ g  _ _ rfl) (cwV 0 hts gX3_setRecord_X3_power rfl rfl rfl (by decide +kernel) ⟨by decide, by decide⟩) 0 rfl rfl rfl rfl rfl (Nat.le_of_ble_eq_true rfl) dX3_setRecord_1 ⟨Nat.zero_le _, Nat.zero_le _⟩ (fun H locs hG => ?_)
  refine lv_if_eq (tgt := 14) hx hb dX3_setRecord_4 (by decide) (fun cq_1 => ?_) (fun cq_1 => ?_)
  · have hf := ifT cq_1 hf
    have hf := Option.some.inj hf
    subst hf
    exact g_vret hr hlk hK hG B dX3_setRecord_14
  · have hf := ifF cq_1 hf
    refine lv_aload_n hx hb dX3_setRecord_7 rfl (lv_at hl 0 rfl) ?_
    refine g_get hK hG B hinX3 0 rfl rfl 4 (by decide) m_23 rfl dX3_setRecord_8 ?_
    refine lv_iload_n hx hb dX3_setRecord_11 rfl (lv_at hl 1 rfl) ?_
    refine lv_iload_n hx hb dX3_setRecord_12 rfl (lv_at hl 2 rfl) ?_
    obtain ⟨vq_2, hf⟩ := chk_s hf
    refine ga_R_rec hK hG B vq_2 dX3_setRecord_13 (fun H locs hG => ?_)
    have hf := Option.some.inj hf
    subst hf
    exact g_vret hr hlk hK hG B dX3_setRecord_14
def f_X3_cut (x1 : Int32) (g : RS) : (Int32 × RS) := (if x1 = (-3 : Int32) then ((R_left g), (sR_left x1 g)) else (if (f_X3_in x1.toInt64 (0 : Int64) (40 : Int64)) = (0 : Int32) then ((-1 : Int32), g) else ((R_left g), (sR_left x1 g))))
set_option maxHeartbeats 4000000 in
set_option maxRecDepth 100000 in
theorem c_X3_cut (l : Launch) (D : va_G) (cI cJ : ClassId) (h0 qk qs qp qw qr qo qn sz : Nat) (g : RS) (x1 : Int32) (r : Int32) (g1 : RS) (hf : f_X3_cut x1 g = (r, g1)) : Met l yX3_cut wsX3_cut { frames := 1, cells := 0, slots := 0, locals := 25 } (gPc D (gT cI cJ) sz (wR h0 qk qs qp qw qr qo qn cI cJ g) [.ref h0, .int x1]) (gQi D (gT cI cJ) (va_A (wR h0 qk qs qp qw qr qo qn cI cJ g) sz) r (wR h0 qk qs qp qw qr qo qn cI cJ g1)) 0 0 (va_A (wR h0 qk qs qp qw qr qo qn cI cJ g) sz) := by
  refine gMet (cc := cX3_cut) (maxL := 3) (ret := (some .int)) (by decide) rfl ?_ (Nat.le_of_ble_eq_true rfl)
  intro p e0 s m below meth c ls B hr hlk hsz hK hG hl
  have hA : ∀ q : Nat, s.heap.size ≤ q → va_A (wR h0 qk qs qp qw qr qo qn cI cJ g) sz q := fun q h => Or.inr (hsz ▸ h)
  have hx := B.1
  have hb := B.2.1
  have hts := B.2.2.2.2
  have hl : lv_has ls 3 [(0, .ref h0), (1, .int x1)] := hl
  generalize va_A (wR h0 qk qs qp qw qr qo qn cI cJ g) sz = A at hA hG ⊢
  have hinX3 : ∀ x ∈ wsX30, x ∈ wsX3_cut := by decide +kernel
  have m_26 : Cond.fieldLink RX3 26 "BlockMoverModel" "left" "I" ∈ wsX3_cut := by decide +kernel
  unfold f_X3_cut at hf
  refine lv_iload_n hx hb dX3_cut_0 rfl (lv_at hl 1 rfl) ?_
  refine lv_bipush (v := -3) hx hb dX3_cut_1 (by decide) ?_
  refine lv_icmp_eq (tgt := 20) hx hb dX3_cut_3 (by decide) (fun cq_1 => ?_) (fun cq_1 => ?_)
  · have hf := ifT cq_1 hf
    refine lv_aload_n hx hb dX3_cut_20 rfl (lv_at hl 0 rfl) ?_
    refine g_get hK hG B hinX3 0 rfl rfl 6 (by decide) m_26 rfl dX3_cut_21 ?_
    refine lv_istore_n (lv' := [(2, .int (R_left g)), (0, .ref h0), (1, .int x1)]) hx hb dX3_cut_24 rfl hl (by decide) rfl (fun ls hl => ?_)
    refine lv_aload_n hx hb dX3_cut_25 rfl (lv_at hl 1 rfl) ?_
    refine lv_iload_n hx hb dX3_cut_26 rfl (lv_at hl 2 rfl) ?_
    refine gp_R_left hK hG B hinX3 m_26 dX3_cut_27 (fun H locs hG => ?_)
    refine lv_iload_n hx hb dX3_cut_30 rfl (lv_at hl 0 rfl) ?_
    obtain ⟨e1, e2⟩ := Prod.mk.inj hf
    subst e2
    exact g_iret hr hlk hK hG B rfl e1 dX3_cut_31
  · have hf := ifF cq_1 hf
    refine lv_iload_n hx hb dX3_cut_6 rfl (lv_at hl 1 rfl) ?_
    refine lv_i2l hx hb dX3_cut_7 rfl ?_
    refine lv_lconst (v := 0) hx hb dX3_cut_8 (by decide) ?_
    refine lv_ldc2 (v := 40) hx hb B.2.2.2.1 (hts (.constantLong RX3 47 (40)) (by decide +kernel)) dX3_cut_9 ?_
    refine gc_Si hA hK hl.1 hG B (c_X3_in l D (gT cI cJ) _ (wR h0 qk qs qp qw qr qo qn cI cJ g) x1.toInt64 (0 : Int64) (40 : Int64) _ rfl) (va_cwS 3 hts gX3_cut_X3_in rfl rfl rfl (by decide +kernel) ⟨by decide, by decide⟩) rfl rfl (Nat.le_of_ble_eq_true rfl) dX3_cut_12 ⟨Nat.zero_le _, Nat.zero_le _⟩ (fun H locs hG => ?_)
    refine lv_if_ne (tgt := 20) hx hb dX3_cut_15 (by decide) (fun cq_2 => ?_) (fun cq_2 => ?_)
    · have hf := ifF cq_2 hf
      refine lv_aload_n hx hb dX3_cut_20 rfl (lv_at hl 0 rfl) ?_
      refine g_get hK hG B hinX3 0 rfl rfl 6 (by decide) m_26 rfl dX3_cut_21 ?_
      refine lv_istore_n (lv' := [(2, .int (R_left g)), (0, .ref h0), (1, .int x1)]) hx hb dX3_cut_24 rfl hl (by decide) rfl (fun ls hl => ?_)
      refine lv_aload_n hx hb dX3_cut_25 rfl (lv_at hl 1 rfl) ?_
      refine lv_iload_n hx hb dX3_cut_26 rfl (lv_at hl 2 rfl) ?_
      refine gp_R_left hK hG B hinX3 m_26 dX3_cut_27 (fun H locs hG => ?_)
      refine lv_iload_n hx hb dX3_cut_30 rfl (lv_at hl 0 rfl) ?_
      obtain ⟨e1, e2⟩ := Prod.mk.inj hf
      subst e2
      exact g_iret hr hlk hK hG B rfl e1 dX3_cut_31
    · have hf := ifT cq_2 hf
      refine lv_iconst (v := -1) hx hb dX3_cut_18 (by decide) ?_
      obtain ⟨e1, e2⟩ := Prod.mk.inj hf
      subst e2
      exact g_iret hr hlk hK hG B rfl e1 dX3_cut_19
def f_X3_isInode (x1 : Int32) (x2 : Int32) (g : RS) : Option Int32 := (if (f_X3_in x1.toInt64 (0 : Int64) (11 : Int64)) = (0 : Int32) then some (0 : Int32) else (chk x1 12 ((if (R_kind g x1.toNatClampNeg) = x2 then some (1 : Int32) else some (0 : Int32)))))
set_option maxHeartbeats 4000000 in
set_option maxRecDepth 100000 in
theorem c_X3_isInode (l : Launch) (D : va_G) (cI cJ : ClassId) (h0 qk qs qp qw qr qo qn sz : Nat) (g : RS) (x1 : Int32) (x2 : Int32) (r : Int32) (hf : f_X3_isInode x1 x2 g = some r) : Met l yX3_isInode wsX3_isInode { frames := 1, cells := 0, slots := 0, locals := 25 } (gPc D (gT cI cJ) sz (wR h0 qk qs qp qw qr qo qn cI cJ g) [.ref h0, .int x1, .int x2]) (gQi D (gT cI cJ) (va_A (wR h0 qk qs qp qw qr qo qn cI cJ g) sz) r (wR h0 qk qs qp qw qr qo qn cI cJ g)) 0 0 (va_A (wR h0 qk qs qp qw qr qo qn cI cJ g) sz) := by
  refine gMet (cc := cX3_isInode) (maxL := 3) (ret := (some .boolean)) (by decide) rfl ?_ (Nat.le_of_ble_eq_true rfl)
  intro p e0 s m below meth c ls B hr hlk hsz hK hG hl
  have hA : ∀ q : Nat, s.heap.size ≤ q → va_A (wR h0 qk qs qp qw qr qo qn cI cJ g) sz q := fun q h => Or.inr (hsz ▸ h)
  have hx := B.1
  have hb := B.2.1
  have hts := B.2.2.2.2
  have hl : lv_has ls 3 [(0, .ref h0), (1, .int x1), (2, .int x2)] := hl
  generalize va_A (wR h0 qk qs qp qw qr qo qn cI cJ g) sz = A at hA hG ⊢
  have hinX3 : ∀ x ∈ wsX30, x ∈ wsX3_isInode := by decide +kernel
  have m_7 : Cond.fieldLink RX3 7 "BlockMoverModel" "kind" "[I" ∈ wsX3_isInode := by decide +kernel
  unfold f_X3_isInode at hf
  refine lv_iload_n hx hb dX3_isInode_0 rfl (lv_at hl 1 rfl) ?_
  refine lv_i2l hx hb dX3_isInode_1 rfl ?_
  refine lv_lconst (v := 0) hx hb dX3_isInode_2 (by decide) ?_
  refine lv_ldc2 (v := 11) hx hb B.2.2.2.1 (hts (.constantLong RX3 53 (11)) (by decide +kernel)) dX3_isInode_3 ?_
  refine gc_Si hA hK hl.1 hG B (c_X3_in l D (gT cI cJ) _ (wR h0 qk qs qp qw qr qo qn cI cJ g) x1.toInt64 (0 : Int64) (11 : Int64) _ rfl) (va_cwS 3 hts gX3_isInode_X3_in rfl rfl rfl (by decide +kernel) ⟨by decide, by decide⟩) rfl rfl (Nat.le_of_ble_eq_true rfl) dX3_isInode_6 ⟨Nat.zero_le _, Nat.zero_le _⟩ (fun H locs hG => ?_)
  refine lv_if_eq (tgt := 26) hx hb dX3_isInode_9 (by decide) (fun cq_1 => ?_) (fun cq_1 => ?_)
  · have hf := ifT cq_1 hf
    refine lv_iconst (v := 0) hx hb dX3_isInode_26 (by decide) ?_
    have hf := Option.some.inj hf
    exact g_iret hr hlk hK hG B rfl hf dX3_isInode_27
  · have hf := ifF cq_1 hf
    refine lv_aload_n hx hb dX3_isInode_12 rfl (lv_at hl 0 rfl) ?_
    refine g_get hK hG B hinX3 0 rfl rfl 0 (by decide) m_7 rfl dX3_isInode_13 ?_
    refine lv_iload_n hx hb dX3_isInode_16 rfl (lv_at hl 1 rfl) ?_
    obtain ⟨vq_2, hf⟩ := chk_s hf
    refine g_iald hK hG B 1 rfl vq_2 dX3_isInode_17 ?_
    refine lv_iload_n hx hb dX3_isInode_18 rfl (lv_at hl 2 rfl) ?_
    refine lv_icmp_ne (tgt := 26) hx hb dX3_isInode_19 (by decide) (fun cq_3 => ?_) (fun cq_3 => ?_)
    · have hf := ifF cq_3 hf
      refine lv_iconst (v := 0) hx hb dX3_isInode_26 (by decide) ?_
      have hf := Option.some.inj hf
      exact g_iret hr hlk hK hG B rfl hf dX3_isInode_27
    · have hf := ifT cq_3 hf
      refine lv_iconst (v := 1) hx hb dX3_isInode_22 (by decide) ?_
      refine lv_goto (tgt := 27) hx hb dX3_isInode_23 (by decide) ?_
      have hf := Option.some.inj hf
      exact g_iret hr hlk hK hG B rfl hf dX3_isInode_27
def f_X3_isName (x0 : Int32) : Int32 := (f_X3_in x0.toInt64 (1 : Int64) (99 : Int64))
set_option maxHeartbeats 4000000 in
set_option maxRecDepth 100000 in
theorem c_X3_isName (l : Launch) (D : va_G) (tys : List (ClassId × FieldType)) (sz : Nat) (w : va_W) (x0 : Int32) (r : Int32) (hf : f_X3_isName x0 = r) : Met l yX3_isName wsX3_isName { frames := 1, cells := 0, slots := 0, locals := 25 } (gPc D tys sz w [.int x0]) (gQi D tys (va_A w sz) r w) 0 0 (va_A w sz) := by
  refine gMet (cc := cX3_isName) (maxL := 1) (ret := (some .boolean)) (by decide) rfl ?_ (Nat.le_of_ble_eq_true rfl)
  intro p e0 s m below meth c ls B hr hlk hsz hK hG hl
  have hA : ∀ q : Nat, s.heap.size ≤ q → va_A w sz q := fun q h => Or.inr (hsz ▸ h)
  have hx := B.1
  have hb := B.2.1
  have hts := B.2.2.2.2
  have hl : lv_has ls 1 [(0, .int x0)] := hl
  generalize va_A w sz = A at hA hG ⊢
  unfold f_X3_isName at hf
  refine lv_iload_n hx hb dX3_isName_0 rfl (lv_at hl 0 rfl) ?_
  refine lv_i2l hx hb dX3_isName_1 rfl ?_
  refine lv_lconst (v := 1) hx hb dX3_isName_2 (by decide) ?_
  refine lv_ldc2 (v := 99) hx hb B.2.2.2.1 (hts (.constantLong RX3 55 (99)) (by decide +kernel)) dX3_isName_3 ?_
  refine gc_Si hA hK hl.1 hG B (c_X3_in l D tys _ w x0.toInt64 (1 : Int64) (99 : Int64) _ rfl) (va_cwS 3 hts gX3_isName_X3_in rfl rfl rfl (by decide +kernel) ⟨by decide, by decide⟩) rfl rfl (Nat.le_of_ble_eq_true rfl) dX3_isName_6 ⟨Nat.zero_le _, Nat.zero_le _⟩ (fun H locs hG => ?_)
  exact g_iret hr hlk hK hG B (bz_X3_in ..) hf dX3_isName_9
def b_X3_entry_2 (y1_2 : Int32) (y2_2 : Int32) (g : RS) (y3_2 : Int32) : Option (((Int32) ⊕ (Unit)) ⊕ (Int32)) := (if (8 : Int32) ≤ y3_2 then some (.inl (.inr ())) else (chk (((8 : Int32) * y1_2) + y3_2) 96 ((if (R_pl g (((8 : Int32) * y1_2) + y3_2).toNatClampNeg) ≤ (0 : Int32) then some (.inr (y3_2 + (1 : Int32))) else (chk (((8 : Int32) * y1_2) + y3_2) 96 ((if ((R_pl g (((8 : Int32) * y1_2) + y3_2).toNatClampNeg) - (R_pl g (((8 : Int32) * y1_2) + y3_2).toNatClampNeg) / (100 : Int32) * (100 : Int32)) = y2_2 then some (.inl (.inl y3_2)) else some (.inr (y3_2 + (1 : Int32))))))))))
def f_X3_entry (x1 : Int32) (x2 : Int32) (g : RS) : Option Int32 := ((itl (fun a : Int32 => b_X3_entry_2 x1 x2 g a) 300 (0 : Int32)).bind (fun zv_6 => Sum.elim (fun v => some v) (fun ev_6 => some (-1 : Int32)) zv_6))
set_option maxHeartbeats 4000000 in
set_option maxRecDepth 100000 in
theorem c_X3_entry (l : Launch) (D : va_G) (cI cJ : ClassId) (h0 qk qs qp qw qr qo qn sz : Nat) (g : RS) (x1 : Int32) (x2 : Int32) (r : Int32) (hf : f_X3_entry x1 x2 g = some r) : Met l yX3_entry wsX3_entry { frames := 0, cells := 0, slots := 0, locals := 0 } (gPc D (gT cI cJ) sz (wR h0 qk qs qp qw qr qo qn cI cJ g) [.ref h0, .int x1, .int x2]) (gQi D (gT cI cJ) (va_A (wR h0 qk qs qp qw qr qo qn cI cJ g) sz) r (wR h0 qk qs qp qw qr qo qn cI cJ g)) 0 0 (va_A (wR h0 qk qs qp qw qr qo qn cI cJ g) sz) := by
  refine gMet (cc := cX3_entry) (maxL := 4) (ret := (some .int)) (by decide) rfl ?_ (Nat.le_of_ble_eq_true rfl)
  intro p e0 s m below meth c ls B hr hlk hsz hK hG hl
  have hA : ∀ q : Nat, s.heap.size ≤ q → va_A (wR h0 qk qs qp qw qr qo qn cI cJ g) sz q := fun q h => Or.inr (hsz ▸ h)
  have hx := B.1
  have hb := B.2.1
  have hts := B.2.2.2.2
  have hl : lv_has ls 4 [(0, .ref h0), (1, .int x1), (2, .int x2)] := hl
  generalize va_A (wR h0 qk qs qp qw qr qo qn cI cJ g) sz = A at hA hG ⊢
  have hinX3 : ∀ x ∈ wsX30, x ∈ wsX3_entry := by decide +kernel
  have m_16 : Cond.fieldLink RX3 16 "BlockMoverModel" "places" "[I" ∈ wsX3_entry := by decide +kernel
  have L2 : ∀ (res : ((Int32) ⊕ (Unit))) (y1_2 : Int32) (y2_2 : Int32), (∀ v, res = .inl v → v = r) → (∀ (H1 : Heap) (locs1 : List Loc) (ls1 : Array Slot) (e : Unit), res = .inr e → gG D A s.heap (wR h0 qk qs qp qw qr qo qn cI cJ g) H1 locs1 → lv_has ls1 4 [] → W p l e0 { frames := 0, cells := 0, slots := 0, locals := 0 } s m ([.ref h0, .int x1, .int x2] : List Value).toArray below meth c H1 locs1 0 0 (MQ below (gQi D (gT cI cJ) A r (wR h0 qk qs qp qw qr qo qn cI cJ g)) ([.ref h0, .int x1, .int x2] : List Value).toArray s 0 0 A) (F0 m 48 ls1 [])) → ∀ (n : Nat) (y3_2 : Int32) (H : Heap) (locs : List Loc) (ls : Array Slot), gG D A s.heap (wR h0 qk qs qp qw qr qo qn cI cJ g) H locs → lv_has ls 4 [(0, .ref h0), (1, .int y1_2), (2, .int y2_2), (3, .int y3_2)] → itl (fun a : Int32 => b_X3_entry_2 y1_2 y2_2 g a) n y3_2 = some res → W p l e0 { frames := 0, cells := 0, slots := 0, locals := 0 } s m ([.ref h0, .int x1, .int x2] : List Value).toArray below meth c H locs 0 0 (MQ below (gQi D (gT cI cJ) A r (wR h0 qk qs qp qw qr qo qn cI cJ g)) ([.ref h0, .int x1, .int x2] : List Value).toArray s 0 0 A) (F0 m 2 ls []) := by
    intro res y1_2 y2_2 hKr2 hKe2 n
    induction n with
    | zero => exact fun y3_2 H locs ls hG hl hf => (itl_0 hf).elim
    | succ n ih =>
      intro y3_2 H locs ls hG hl hf
      obtain ⟨o, hf, ho2, hn2⟩ := itl_s hf
      have hf : b_X3_entry_2 y1_2 y2_2 g y3_2 = some o := hf
      unfold b_X3_entry_2 at hf
      refine lv_iload_n hx hb dX3_entry_2 rfl (lv_at hl 3 rfl) ?_
      refine lv_bipush (v := 8) hx hb dX3_entry_3 (by decide) ?_
      refine lv_icmp_ge (tgt := 48) hx hb dX3_entry_5 (by decide) (fun cq_1 => ?_) (fun cq_1 => ?_)
      · have hf := ifT cq_1 hf
        have hres := ho2 _ (Option.some.inj hf).symm
        exact hKe2 _ _ _ () hres.symm hG (lv_sub hl [] rfl)
      · have hf := ifF cq_1 hf
        refine lv_aload_n hx hb dX3_entry_8 rfl (lv_at hl 0 rfl) ?_
        refine g_get hK hG B hinX3 0 rfl rfl 2 (by decide) m_16 rfl dX3_entry_9 ?_
        refine lv_bipush (v := 8) hx hb dX3_entry_12 (by decide) ?_
        refine lv_iload_n hx hb dX3_entry_14 rfl (lv_at hl 1 rfl) ?_
        refine lv_imul hx hb dX3_entry_15 ?_
        refine lv_iload_n hx hb dX3_entry_16 rfl (lv_at hl 3 rfl) ?_
        refine lv_iadd hx hb dX3_entry_17 ?_
        obtain ⟨vq_2, hf⟩ := chk_s hf
        refine g_iald hK hG B 3 rfl vq_2 dX3_entry_18 ?_
        refine lv_if_le (tgt := 42) hx hb dX3_entry_19 (by decide) (fun cq_3 => ?_) (fun cq_3 => ?_)
        · have hf := ifT cq_3 hf
          refine lv_iinc (v := (y3_2 + (1 : Int32))) (lv' := [(3, .int (y3_2 + (1 : Int32))), (0, .ref h0), (1, .int y1_2), (2, .int y2_2)]) hx hb dX3_entry_42 hl (k := 3) rfl rfl (by decide) rfl (fun ls hl => ?_)
          refine lv_goto (tgt := 2) hx hb dX3_entry_45 (by decide) ?_
          have hn := hn2 _ (Option.some.inj hf).symm
          exact ih (y3_2 + (1 : Int32)) _ _ _ hG (lv_sub hl [1, 2, 3, 0] rfl) hn
        · have hf := ifF cq_3 hf
          refine lv_aload_n hx hb dX3_entry_22 rfl (lv_at hl 0 rfl) ?_
          refine g_get hK hG B hinX3 0 rfl rfl 2 (by decide) m_16 rfl dX3_entry_23 ?_
          refine lv_bipush (v := 8) hx hb dX3_entry_26 (by decide) ?_
          refine lv_iload_n hx hb dX3_entry_28 rfl (lv_at hl 1 rfl) ?_
          refine lv_imul hx hb dX3_entry_29 ?_
          refine lv_iload_n hx hb dX3_entry_30 rfl (lv_at hl 3 rfl) ?_
          refine lv_iadd hx hb dX3_entry_31 ?_
          obtain ⟨vq_4, hf⟩ := chk_s hf
          refine g_iald hK hG B 3 rfl vq_4 dX3_entry_32 ?_
          refine lv_bipush (v := 100) hx hb dX3_entry_33 (by decide) ?_
          refine lv_irem hx hb dX3_entry_35 (by decide) ?_
          refine lv_iload_n hx hb dX3_entry_36 rfl (lv_at hl 2 rfl) ?_
          refine lv_icmp_ne (tgt := 42) hx hb dX3_entry_37 (by decide) (fun cq_5 => ?_) (fun cq_5 => ?_)
          · have hf := ifF cq_5 hf
            refine lv_iinc (v := (y3_2 + (1 : Int32))) (lv' := [(3, .int (y3_2 + (1 : Int32))), (0, .ref h0), (1, .int y1_2), (2, .int y2_2)]) hx hb dX3_entry_42 hl (k := 3) rfl rfl (by decide) rfl (fun ls hl => ?_)
            refine lv_goto (tgt := 2) hx hb dX3_entry_45 (by decide) ?_
            have hn := hn2 _ (Option.some.inj hf).symm
            exact ih (y3_2 + (1 : Int32)) _ _ _ hG (lv_sub hl [1, 2, 3, 0] rfl) hn
          · have hf := ifT cq_5 hf
            refine lv_iload_n hx hb dX3_entry_40 rfl (lv_at hl 3 rfl) ?_
            have hf := hKr2 _ (ho2 _ (Option.some.inj hf).symm).symm
            exact g_iret hr hlk hK hG B rfl hf dX3_entry_41
  unfold f_X3_entry at hf
  refine lv_iconst (v := 0) hx hb dX3_entry_0 (by decide) ?_
  refine lv_istore_n (lv' := [(3, .int (0 : Int32)), (0, .ref h0), (1, .int x1), (2, .int x2)]) hx hb dX3_entry_1 rfl hl (by decide) rfl (fun ls hl => ?_)
  obtain ⟨zv_6, hizv_6, hf⟩ := ob hf
  refine L2 zv_6 x1 x2 (fun v hres => by subst hres; have hf := se_l hf; exact Option.some.inj hf) (fun H locs ls ev_6 hres hG hl => ?_) 300 (0 : Int32) _ _ _ hG (lv_sub hl [1, 2, 3, 0] rfl) hizv_6
  have hres := hres.symm
  subst hres
  have hf := se_r hf
  refine lv_iconst (v := -1) hx hb dX3_entry_48 (by decide) ?_
  have hf := Option.some.inj hf
  exact g_iret hr hlk hK hG B rfl hf dX3_entry_49
def b_X3_noEntry_2 (y1_2 : Int32) (g : RS) (y2_2 : Int32) : Option (((Int32) ⊕ (Unit)) ⊕ (Int32)) := (if (8 : Int32) ≤ y2_2 then some (.inl (.inr ())) else (chk (((8 : Int32) * y1_2) + y2_2) 96 ((if (R_pl g (((8 : Int32) * y1_2) + y2_2).toNatClampNeg) = (0 : Int32) then some (.inl (.inl y2_2)) else some (.inr (y2_2 + (1 : Int32)))))))
def f_X3_noEntry (x1 : Int32) (g : RS) : Option Int32 := ((itl (fun a : Int32 => b_X3_noEntry_2 x1 g a) 300 (0 : Int32)).bind (fun zv_4 => Sum.elim (fun v => some v) (fun ev_4 => some (-1 : Int32)) zv_4))
set_option maxHeartbeats 4000000 in
set_option maxRecDepth 100000 in
theorem c_X3_noEntry (l : Launch) (D : va_G) (cI cJ : ClassId) (h0 qk qs qp qw qr qo qn sz : Nat) (g : RS) (x1 : Int32) (r : Int32) (hf : f_X3_noEntry x1 g = some r) : Met l yX3_noEntry wsX3_noEntry { frames := 0, cells := 0, slots := 0, locals := 0 } (gPc D (gT cI cJ) sz (wR h0 qk qs qp qw qr qo qn cI cJ g) [.ref h0, .int x1]) (gQi D (gT cI cJ) (va_A (wR h0 qk qs qp qw qr qo qn cI cJ g) sz) r (wR h0 qk qs qp qw qr qo qn cI cJ g)) 0 0 (va_A (wR h0 qk qs qp qw qr qo qn cI cJ g) sz) := by
  refine gMet (cc := cX3_noEntry) (maxL := 3) (ret := (some .int)) (by decide) rfl ?_ (Nat.le_of_ble_eq_true rfl)
  intro p e0 s m below meth c ls B hr hlk hsz hK hG hl
  have hA : ∀ q : Nat, s.heap.size ≤ q → va_A (wR h0 qk qs qp qw qr qo qn cI cJ g) sz q := fun q h => Or.inr (hsz ▸ h)
  have hx := B.1
  have hb := B.2.1
  have hts := B.2.2.2.2
  have hl : lv_has ls 3 [(0, .ref h0), (1, .int x1)] := hl
  generalize va_A (wR h0 qk qs qp qw qr qo qn cI cJ g) sz = A at hA hG ⊢
  have hinX3 : ∀ x ∈ wsX30, x ∈ wsX3_noEntry := by decide +kernel
  have m_16 : Cond.fieldLink RX3 16 "BlockMoverModel" "places" "[I" ∈ wsX3_noEntry := by decide +kernel
  have L2 : ∀ (res : ((Int32) ⊕ (Unit))) (y1_2 : Int32), (∀ v, res = .inl v → v = r) → (∀ (H1 : Heap) (locs1 : List Loc) (ls1 : Array Slot) (e : Unit), res = .inr e → gG D A s.heap (wR h0 qk qs qp qw qr qo qn cI cJ g) H1 locs1 → lv_has ls1 3 [] → W p l e0 { frames := 0, cells := 0, slots := 0, locals := 0 } s m ([.ref h0, .int x1] : List Value).toArray below meth c H1 locs1 0 0 (MQ below (gQi D (gT cI cJ) A r (wR h0 qk qs qp qw qr qo qn cI cJ g)) ([.ref h0, .int x1] : List Value).toArray s 0 0 A) (F0 m 30 ls1 [])) → ∀ (n : Nat) (y2_2 : Int32) (H : Heap) (locs : List Loc) (ls : Array Slot), gG D A s.heap (wR h0 qk qs qp qw qr qo qn cI cJ g) H locs → lv_has ls 3 [(0, .ref h0), (1, .int y1_2), (2, .int y2_2)] → itl (fun a : Int32 => b_X3_noEntry_2 y1_2 g a) n y2_2 = some res → W p l e0 { frames := 0, cells := 0, slots := 0, locals := 0 } s m ([.ref h0, .int x1] : List Value).toArray below meth c H locs 0 0 (MQ below (gQi D (gT cI cJ) A r (wR h0 qk qs qp qw qr qo qn cI cJ g)) ([.ref h0, .int x1] : List Value).toArray s 0 0 A) (F0 m 2 ls []) := by
    intro res y1_2 hKr2 hKe2 n
    induction n with
    | zero => exact fun y2_2 H locs ls hG hl hf => (itl_0 hf).elim
    | succ n ih =>
      intro y2_2 H locs ls hG hl hf
      obtain ⟨o, hf, ho2, hn2⟩ := itl_s hf
      have hf : b_X3_noEntry_2 y1_2 g y2_2 = some o := hf
      unfold b_X3_noEntry_2 at hf
      refine lv_iload_n hx hb dX3_noEntry_2 rfl (lv_at hl 2 rfl) ?_
      refine lv_bipush (v := 8) hx hb dX3_noEntry_3 (by decide) ?_
      refine lv_icmp_ge (tgt := 30) hx hb dX3_noEntry_5 (by decide) (fun cq_1 => ?_) (fun cq_1 => ?_)
      · have hf := ifT cq_1 hf
        have hres := ho2 _ (Option.some.inj hf).symm
        exact hKe2 _ _ _ () hres.symm hG (lv_sub hl [] rfl)
      · have hf := ifF cq_1 hf
        refine lv_aload_n hx hb dX3_noEntry_8 rfl (lv_at hl 0 rfl) ?_
        refine g_get hK hG B hinX3 0 rfl rfl 2 (by decide) m_16 rfl dX3_noEntry_9 ?_
        refine lv_bipush (v := 8) hx hb dX3_noEntry_12 (by decide) ?_
        refine lv_iload_n hx hb dX3_noEntry_14 rfl (lv_at hl 1 rfl) ?_
        refine lv_imul hx hb dX3_noEntry_15 ?_
        refine lv_iload_n hx hb dX3_noEntry_16 rfl (lv_at hl 2 rfl) ?_
        refine lv_iadd hx hb dX3_noEntry_17 ?_
        obtain ⟨vq_2, hf⟩ := chk_s hf
        refine g_iald hK hG B 3 rfl vq_2 dX3_noEntry_18 ?_
        refine lv_if_ne (tgt := 24) hx hb dX3_noEntry_19 (by decide) (fun cq_3 => ?_) (fun cq_3 => ?_)
        · have hf := ifF cq_3 hf
          refine lv_iinc (v := (y2_2 + (1 : Int32))) (lv' := [(2, .int (y2_2 + (1 : Int32))), (0, .ref h0), (1, .int y1_2)]) hx hb dX3_noEntry_24 hl (k := 2) rfl rfl (by decide) rfl (fun ls hl => ?_)
          refine lv_goto (tgt := 2) hx hb dX3_noEntry_27 (by decide) ?_
          have hn := hn2 _ (Option.some.inj hf).symm
          exact ih (y2_2 + (1 : Int32)) _ _ _ hG (lv_sub hl [1, 2, 0] rfl) hn
        · have hf := ifT cq_3 hf
          refine lv_iload_n hx hb dX3_noEntry_22 rfl (lv_at hl 2 rfl) ?_
          have hf := hKr2 _ (ho2 _ (Option.some.inj hf).symm).symm
          exact g_iret hr hlk hK hG B rfl hf dX3_noEntry_23
  unfold f_X3_noEntry at hf
  refine lv_iconst (v := 0) hx hb dX3_noEntry_0 (by decide) ?_
  refine lv_istore_n (lv' := [(2, .int (0 : Int32)), (0, .ref h0), (1, .int x1)]) hx hb dX3_noEntry_1 rfl hl (by decide) rfl (fun ls hl => ?_)
  obtain ⟨zv_4, hizv_4, hf⟩ := ob hf
  refine L2 zv_4 x1 (fun v hres => by subst hres; have hf := se_l hf; exact Option.some.inj hf) (fun H locs ls ev_4 hres hG hl => ?_) 300 (0 : Int32) _ _ _ hG (lv_sub hl [1, 2, 0] rfl) hizv_4
  have hres := hres.symm
  subst hres
  have hf := se_r hf
  refine lv_iconst (v := -1) hx hb dX3_noEntry_30 (by decide) ?_
  have hf := Option.some.inj hf
  exact g_iret hr hlk hK hG B rfl hf dX3_noEntry_31
