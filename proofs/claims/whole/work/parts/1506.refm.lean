def f_X3_inodeOf (x1 : Int32) (x2 : Int32) (g : RS) : Option Int32 := (if x2 = (0 : Int32) then (chk x1 12 (some (R_kind g x1.toNatClampNeg))) else (if x2 = (1 : Int32) then (chk x1 12 (some (R_size g x1.toNatClampNeg))) else (chk ((((8 : Int32) * x1) + x2) - (2 : Int32)) 96 (some (R_pl g ((((8 : Int32) * x1) + x2) - (2 : Int32)).toNatClampNeg)))))
set_option maxHeartbeats 4000000 in
set_option maxRecDepth 100000 in
theorem c_X3_inodeOf (l : Launch) (D : va_G) (cI cJ : ClassId) (h0 qk qs qp qw qr qo qn sz : Nat) (g : RS) (x1 : Int32) (x2 : Int32) (r : Int32) (hf : f_X3_inodeOf x1 x2 g = some r) : Met l yX3_inodeOf wsX3_inodeOf { frames := 0, cells := 0, slots := 0, locals := 0 } (gPc D (gT cI cJ) sz (wR h0 qk qs qp qw qr qo qn cI cJ g) [.ref h0, .int x1, .int x2]) (gQi D (gT cI cJ) (va_A (wR h0 qk qs qp qw qr qo qn cI cJ g) sz) r (wR h0 qk qs qp qw qr qo qn cI cJ g)) 0 0 (va_A (wR h0 qk qs qp qw qr qo qn cI cJ g) sz) := by
  refine gMet (cc := cX3_inodeOf) (maxL := 3) (ret := (some .int)) (by decide) rfl ?_ (Nat.le_of_ble_eq_true rfl)
  intro p e0 s m below meth c ls B hr hlk hsz hK hG hl
  have hA : ∀ q : Nat, s.heap.size ≤ q → va_A (wR h0 qk qs qp qw qr qo qn cI cJ g) sz q := fun q h => Or.inr (hsz ▸ h)
  have hx := B.1
  have hb := B.2.1
  have hts := B.2.2.2.2
  have hl : lv_has ls 3 [(0, .ref h0), (1, .int x1), (2, .int x2)] := hl
  generalize va_A (wR h0 qk qs qp qw qr qo qn cI cJ g) sz = A at hA hG ⊢
  have hinX3 : ∀ x ∈ wsX30, x ∈ wsX3_inodeOf := by decide +kernel
  have m_7 : Cond.fieldLink RX3 7 "BlockMoverModel" "kind" "[I" ∈ wsX3_inodeOf := by decide +kernel
  have m_13 : Cond.fieldLink RX3 13 "BlockMoverModel" "size" "[I" ∈ wsX3_inodeOf := by decide +kernel
  have m_16 : Cond.fieldLink RX3 16 "BlockMoverModel" "places" "[I" ∈ wsX3_inodeOf := by decide +kernel
  unfold f_X3_inodeOf at hf
  refine lv_iload_n hx hb dX3_inodeOf_0 rfl (lv_at hl 2 rfl) ?_
  refine lv_if_ne (tgt := 13) hx hb dX3_inodeOf_1 (by decide) (fun cq_1 => ?_) (fun cq_1 => ?_)
  · have hf := ifF cq_1 hf
    refine lv_iload_n hx hb dX3_inodeOf_13 rfl (lv_at hl 2 rfl) ?_
    refine lv_iconst (v := 1) hx hb dX3_inodeOf_14 (by decide) ?_
    refine lv_icmp_ne (tgt := 27) hx hb dX3_inodeOf_15 (by decide) (fun cq_2 => ?_) (fun cq_2 => ?_)
    · have hf := ifF cq_2 hf
      refine lv_aload_n hx hb dX3_inodeOf_27 rfl (lv_at hl 0 rfl) ?_
      refine g_get hK hG B hinX3 0 rfl rfl 2 (by decide) m_16 rfl dX3_inodeOf_28 ?_
      refine lv_bipush (v := 8) hx hb dX3_inodeOf_31 (by decide) ?_
      refine lv_iload_n hx hb dX3_inodeOf_33 rfl (lv_at hl 1 rfl) ?_
      refine lv_imul hx hb dX3_inodeOf_34 ?_
      refine lv_iload_n hx hb dX3_inodeOf_35 rfl (lv_at hl 2 rfl) ?_
      refine lv_iadd hx hb dX3_inodeOf_36 ?_
      refine lv_iconst (v := 2) hx hb dX3_inodeOf_37 (by decide) ?_
      refine lv_isub hx hb dX3_inodeOf_38 ?_
      obtain ⟨vq_3, hf⟩ := chk_s hf
      refine g_iald hK hG B 3 rfl vq_3 dX3_inodeOf_39 ?_
      have hf := Option.some.inj hf
      exact g_iret hr hlk hK hG B rfl hf dX3_inodeOf_40
    · have hf := ifT cq_2 hf
      refine lv_aload_n hx hb dX3_inodeOf_18 rfl (lv_at hl 0 rfl) ?_
      refine g_get hK hG B hinX3 0 rfl rfl 1 (by decide) m_13 rfl dX3_inodeOf_19 ?_
      refine lv_iload_n hx hb dX3_inodeOf_22 rfl (lv_at hl 1 rfl) ?_
      obtain ⟨vq_4, hf⟩ := chk_s hf
      refine g_iald hK hG B 2 rfl vq_4 dX3_inodeOf_23 ?_
      refine lv_goto (tgt := 40) hx hb dX3_inodeOf_24 (by decide) ?_
      have hf := Option.some.inj hf
      exact g_iret hr hlk hK hG B rfl hf dX3_inodeOf_40
  · have hf := ifT cq_1 hf
    refine lv_aload_n hx hb dX3_inodeOf_4 rfl (lv_at hl 0 rfl) ?_
    refine g_get hK hG B hinX3 0 rfl rfl 0 (by decide) m_7 rfl dX3_inodeOf_5 ?_
    refine lv_iload_n hx hb dX3_inodeOf_8 rfl (lv_at hl 1 rfl) ?_
    obtain ⟨vq_5, hf⟩ := chk_s hf
    refine g_iald hK hG B 1 rfl vq_5 dX3_inodeOf_9 ?_
    refine lv_goto (tgt := 40) hx hb dX3_inodeOf_10 (by decide) ?_
    have hf := Option.some.inj hf
    exact g_iret hr hlk hK hG B rfl hf dX3_inodeOf_40
def f_X3_inode (x1 : Int32) (x2 : Int32) (g : RS) : Option Int32 := (if (f_X3_in x1.toInt64 (0 : Int64) (11 : Int64)) = (0 : Int32) then some (-1 : Int32) else (if (f_X3_in x2.toInt64 (0 : Int64) (9 : Int64)) = (0 : Int32) then some (-1 : Int32) else ((f_X3_inodeOf x1 x2 g).bind (fun zv_3 => some zv_3))))
set_option maxHeartbeats 4000000 in
set_option maxRecDepth 100000 in
theorem c_X3_inode (l : Launch) (D : va_G) (cI cJ : ClassId) (h0 qk qs qp qw qr qo qn sz : Nat) (g : RS) (x1 : Int32) (x2 : Int32) (r : Int32) (hf : f_X3_inode x1 x2 g = some r) : Met l yX3_inode wsX3_inode { frames := 1, cells := 0, slots := 0, locals := 25 } (gPc D (gT cI cJ) sz (wR h0 qk qs qp qw qr qo qn cI cJ g) [.ref h0, .int x1, .int x2]) (gQi D (gT cI cJ) (va_A (wR h0 qk qs qp qw qr qo qn cI cJ g) sz) r (wR h0 qk qs qp qw qr qo qn cI cJ g)) 0 0 (va_A (wR h0 qk qs qp qw qr qo qn cI cJ g) sz) := by
  refine gMet (cc := cX3_inode) (maxL := 3) (ret := (some .int)) (by decide) rfl ?_ (Nat.le_of_ble_eq_true rfl)
  intro p e0 s m below meth c ls B hr hlk hsz hK hG hl
  have hA : ∀ q : Nat, s.heap.size ≤ q → va_A (wR h0 qk qs qp qw qr qo qn cI cJ g) sz q := fun q h => Or.inr (hsz ▸ h)
  have hx := B.1
  have hb := B.2.1
  have hts := B.2.2.2.2
  have hl : lv_has ls 3 [(0, .ref h0), (1, .int x1), (2, .int x2)] := hl
  generalize va_A (wR h0 qk qs qp qw qr qo qn cI cJ g) sz = A at hA hG ⊢
  unfold f_X3_inode at hf
  refine lv_iload_n hx hb dX3_inode_0 rfl (lv_at hl 1 rfl) ?_
  refine lv_i2l hx hb dX3_inode_1 rfl ?_
  refine lv_lconst (v := 0) hx hb dX3_inode_2 (by decide) ?_
  refine lv_ldc2 (v := 11) hx hb B.2.2.2.1 (hts (.constantLong RX3 53 (11)) (by decide +kernel)) dX3_inode_3 ?_
  refine gc_Si hA hK hl.1 hG B (c_X3_in l D (gT cI cJ) _ (wR h0 qk qs qp qw qr qo qn cI cJ g) x1.toInt64 (0 : Int64) (11 : Int64) _ rfl) (va_cwS 3 hts gX3_inode_X3_in rfl rfl rfl (by decide +kernel) ⟨by decide, by decide⟩) rfl rfl (Nat.le_of_ble_eq_true rfl) dX3_inode_6 ⟨Nat.zero_le _, Nat.zero_le _⟩ (fun H locs hG => ?_)
  refine lv_if_eq (tgt := 33) hx hb dX3_inode_9 (by decide) (fun cq_1 => ?_) (fun cq_1 => ?_)
  · have hf := ifT cq_1 hf
    refine lv_iconst (v := -1) hx hb dX3_inode_33 (by decide) ?_
    have hf := Option.some.inj hf
    exact g_iret hr hlk hK hG B rfl hf dX3_inode_34
  · have hf := ifF cq_1 hf
    refine lv_iload_n hx hb dX3_inode_12 rfl (lv_at hl 2 rfl) ?_
    refine lv_i2l hx hb dX3_inode_13 rfl ?_
    refine lv_lconst (v := 0) hx hb dX3_inode_14 (by decide) ?_
    refine lv_ldc2 (v := 9) hx hb B.2.2.2.1 (hts (.constantLong RX3 138 (9)) (by decide +kernel)) dX3_inode_15 ?_
    refine gc_Si hA hK hl.1 hG B (c_X3_in l D (gT cI cJ) _ (wR h0 qk qs qp qw qr qo qn cI cJ g) x2.toInt64 (0 : Int64) (9 : Int64) _ rfl) (va_cwS 3 hts gX3_inode_X3_in rfl rfl rfl (by decide +kernel) ⟨by decide, by decide⟩) rfl rfl (Nat.le_of_ble_eq_true rfl) dX3_inode_18 ⟨Nat.zero_le _, Nat.zero_le _⟩ (fun H locs hG => ?_)
    refine lv_if_eq (tgt := 33) hx hb dX3_inode_21 (by decide) (fun cq_2 => ?_) (fun cq_2 => ?_)
    · have hf := ifT cq_2 hf
      refine lv_iconst (v := -1) hx hb dX3_inode_33 (by decide) ?_
      have hf := Option.some.inj hf
      exact g_iret hr hlk hK hG B rfl hf dX3_inode_34
    · have hf := ifF cq_2 hf
      refine lv_aload_n hx hb dX3_inode_24 rfl (lv_at hl 0 rfl) ?_
      refine lv_iload_n hx hb dX3_inode_25 rfl (lv_at hl 1 rfl) ?_
      refine lv_iload_n hx hb dX3_inode_26 rfl (lv_at hl 2 rfl) ?_
      obtain ⟨zv_3, hqzv_3, hf⟩ := ob hf
      refine gc_Vi hA hK hl.1 hG B (c_X3_inodeOf l D cI cJ h0 qk qs qp qw qr qo qn _ g x1 x2 _ hqzv_3) (cwV 2 hts gX3_inode_X3_inodeOf rfl rfl rfl (by decide +kernel) ⟨by decide, by decide⟩) 0 rfl rfl rfl rfl rfl (Nat.le_of_ble_eq_true rfl) dX3_inode_27 ⟨Nat.zero_le _, Nat.zero_le _⟩ (fun H locs hG => ?_)
      refine lv_goto (tgt := 34) hx hb dX3_inode_30 (by decide) ?_
      have hf := Option.some.inj hf
      exact g_iret hr hlk hK hG B rfl hf dX3_inode_34
def f_X3_data (x1 : Int32) (x2 : Int32) (g : RS) : Option (Int32 × RS) := (if (f_X3_in x1.toInt64 (0 : Int64) (39 : Int64)) = (0 : Int32) then some ((-1 : Int32), g) else (if (f_X3_in x2.toInt64 (0 : Int64) (2 : Int64)) = (0 : Int32) then some ((-1 : Int32), g) else (chk (((3 : Int32) * x1) + x2) 120 (some ((1 : Int32), (sR_lat (R_ws g (((3 : Int32) * x1) + x2).toNatClampNeg) g))))))
set_option maxHeartbeats 4000000 in
set_option maxRecDepth 100000 in
theorem c_X3_data (l : Launch) (D : va_G) (cI cJ : ClassId) (h0 qk qs qp qw qr qo qn sz : Nat) (g : RS) (x1 : Int32) (x2 : Int32) (r : Int32) (g1 : RS) (hf : f_X3_data x1 x2 g = some (r, g1)) : Met l yX3_data wsX3_data { frames := 1, cells := 0, slots := 0, locals := 25 } (gPc D (gT cI cJ) sz (wR h0 qk qs qp qw qr qo qn cI cJ g) [.ref h0, .int x1, .int x2]) (gQi D (gT cI cJ) (va_A (wR h0 qk qs qp qw qr qo qn cI cJ g) sz) r (wR h0 qk qs qp qw qr qo qn cI cJ g1)) 0 0 (va_A (wR h0 qk qs qp qw qr qo qn cI cJ g) sz) := by
  refine gMet (cc := cX3_data) (maxL := 3) (ret := (some .int)) (by decide) rfl ?_ (Nat.le_of_ble_eq_true rfl)
  intro p e0 s m below meth c ls B hr hlk hsz hK hG hl
  have hA : ∀ q : Nat, s.heap.size ≤ q → va_A (wR h0 qk qs qp qw qr qo qn cI cJ g) sz q := fun q h => Or.inr (hsz ▸ h)
  have hx := B.1
  have hb := B.2.1
  have hts := B.2.2.2.2
  have hl : lv_has ls 3 [(0, .ref h0), (1, .int x1), (2, .int x2)] := hl
  generalize va_A (wR h0 qk qs qp qw qr qo qn cI cJ g) sz = A at hA hG ⊢
  have hinX3 : ∀ x ∈ wsX30, x ∈ wsX3_data := by decide +kernel
  have m_19 : Cond.fieldLink RX3 19 "BlockMoverModel" "words" "[J" ∈ wsX3_data := by decide +kernel
  have m_145 : Cond.fieldLink RX3 145 "BlockMoverModel" "latest" "J" ∈ wsX3_data := by decide +kernel
  unfold f_X3_data at hf
  refine lv_iload_n hx hb dX3_data_0 rfl (lv_at hl 1 rfl) ?_
  refine lv_i2l hx hb dX3_data_1 rfl ?_
  refine lv_lconst (v := 0) hx hb dX3_data_2 (by decide) ?_
  refine lv_ldc2 (v := 39) hx hb B.2.2.2.1 (hts (.constantLong RX3 143 (39)) (by decide +kernel)) dX3_data_3 ?_
  refine gc_Si hA hK hl.1 hG B (c_X3_in l D (gT cI cJ) _ (wR h0 qk qs qp qw qr qo qn cI cJ g) x1.toInt64 (0 : Int64) (39 : Int64) _ rfl) (va_cwS 3 hts gX3_data_X3_in rfl rfl rfl (by decide +kernel) ⟨by decide, by decide⟩) rfl rfl (Nat.le_of_ble_eq_true rfl) dX3_data_6 ⟨Nat.zero_le _, Nat.zero_le _⟩ (fun H locs hG => ?_)
  refine lv_if_eq (tgt := 24) hx hb dX3_data_9 (by decide) (fun cq_1 => ?_) (fun cq_1 => ?_)
  · have hf := ifT cq_1 hf
    refine lv_iconst (v := -1) hx hb dX3_data_24 (by decide) ?_
    have hf := Option.some.inj hf
    obtain ⟨e1, e2⟩ := Prod.mk.inj hf
    subst e2
    exact g_iret hr hlk hK hG B rfl e1 dX3_data_25
  · have hf := ifF cq_1 hf
    refine lv_iload_n hx hb dX3_data_12 rfl (lv_at hl 2 rfl) ?_
    refine lv_i2l hx hb dX3_data_13 rfl ?_
    refine lv_lconst (v := 0) hx hb dX3_data_14 (by decide) ?_
    refine lv_ldc2 (v := 2) hx hb B.2.2.2.1 (hts (.constantLong RX3 68 (2)) (by decide +kernel)) dX3_data_15 ?_
    refine gc_Si hA hK hl.1 hG B (c_X3_in l D (gT cI cJ) _ (wR h0 qk qs qp qw qr qo qn cI cJ g) x2.toInt64 (0 : Int64) (2 : Int64) _ rfl) (va_cwS 3 hts gX3_data_X3_in rfl rfl rfl (by decide +kernel) ⟨by decide, by decide⟩) rfl rfl (Nat.le_of_ble_eq_true rfl) dX3_data_18 ⟨Nat.zero_le _, Nat.zero_le _⟩ (fun H locs hG => ?_)
    refine lv_if_ne (tgt := 26) hx hb dX3_data_21 (by decide) (fun cq_2 => ?_) (fun cq_2 => ?_)
    · have hf := ifF cq_2 hf
      refine lv_aload_n hx hb dX3_data_26 rfl (lv_at hl 0 rfl) ?_
      refine lv_aload_n hx hb dX3_data_27 rfl (lv_at hl 0 rfl) ?_
      refine g_get hK hG B hinX3 0 rfl rfl 3 (by decide) m_19 rfl dX3_data_28 ?_
      refine lv_iconst (v := 3) hx hb dX3_data_31 (by decide) ?_
      refine lv_iload_n hx hb dX3_data_32 rfl (lv_at hl 1 rfl) ?_
      refine lv_imul hx hb dX3_data_33 ?_
      refine lv_iload_n hx hb dX3_data_34 rfl (lv_at hl 2 rfl) ?_
      refine lv_iadd hx hb dX3_data_35 ?_
      obtain ⟨vq_3, hf⟩ := chk_s hf
      refine g_lald hK hG B 4 rfl vq_3 dX3_data_36 ?_
      refine gp_R_lat hK hG B hinX3 m_145 dX3_data_37 (fun H locs hG => ?_)
      refine lv_iconst (v := 1) hx hb dX3_data_40 (by decide) ?_
      have hf := Option.some.inj hf
      obtain ⟨e1, e2⟩ := Prod.mk.inj hf
      subst e2
      exact g_iret hr hlk hK hG B rfl e1 dX3_data_41
    · have hf := ifT cq_2 hf
      refine lv_iconst (v := -1) hx hb dX3_data_24 (by decide) ?_
      have hf := Option.some.inj hf
      obtain ⟨e1, e2⟩ := Prod.mk.inj hf
      subst e2
      exact g_iret hr hlk hK hG B rfl e1 dX3_data_25
def f_X3_read (x1 : Int32) (x2 : Int32) (x3 : Int32) (g : RS) : Option (Int32 × RS) := ((f_X3_isInode x1 (2 : Int32) g).bind (fun zv_1 => (if zv_1 = (0 : Int32) then some ((-1 : Int32), g) else (chk x1 12 ((if (f_X3_in x2.toInt64 (0 : Int64) ((R_size g x1.toNatClampNeg) - (1 : Int32)).toInt64) = (0 : Int32) then some ((-1 : Int32), g) else (if (f_X3_in x3.toInt64 (0 : Int64) (2 : Int64)) = (0 : Int32) then some ((-1 : Int32), g) else (chk (((8 : Int32) * x1) + x2) 96 ((chk (((3 : Int32) * (R_pl g (((8 : Int32) * x1) + x2).toNatClampNeg)) + x3) 120 (some ((1 : Int32), (sR_lat (R_ws g (((3 : Int32) * (R_pl g (((8 : Int32) * x1) + x2).toNatClampNeg)) + x3).toNatClampNeg) g)))))))))))))
set_option maxHeartbeats 4000000 in
set_option maxRecDepth 100000 in
theorem c_X3_read (l : Launch) (D : va_G) (cI cJ : ClassId) (h0 qk qs qp qw qr qo qn sz : Nat) (g : RS) (x1 : Int32) (x2 : Int32) (x3 : Int32) (r : Int32) (g1 : RS) (hf : f_X3_read x1 x2 x3 g = some (r, g1)) : Met l yX3_read wsX3_read { frames := 2, cells := 0, slots := 0, locals := 47 } (gPc D (gT cI cJ) sz (wR h0 qk qs qp qw qr qo qn cI cJ g) [.ref h0, .int x1, .int x2, .int x3]) (gQi D (gT cI cJ) (va_A (wR h0 qk qs qp qw qr qo qn cI cJ g) sz) r (wR h0 qk qs qp qw qr qo qn cI cJ g1)) 0 0 (va_A (wR h0 qk qs qp qw qr qo qn cI cJ g) sz) := by
  refine gMet (cc := cX3_read) (maxL := 4) (ret := (some .int)) (by decide) rfl ?_ (Nat.le_of_ble_eq_true rfl)
  intro p e0 s m below meth c ls B hr hlk hsz hK hG hl
  have hA : ∀ q : Nat, s.heap.size ≤ q → va_A (wR h0 qk qs qp qw qr qo qn cI cJ g) sz q := fun q h => Or.inr (hsz ▸ h)
  have hx := B.1
  have hb := B.2.1
  have hts := B.2.2.2.2
  have hl : lv_has ls 4 [(0, .ref h0), (1, .int x1), (2, .int x2), (3, .int x3)] := hl
  generalize va_A (wR h0 qk qs qp qw qr qo qn cI cJ g) sz = A at hA hG ⊢
  have hinX3 : ∀ x ∈ wsX30, x ∈ wsX3_read := by decide +kernel
  have m_13 : Cond.fieldLink RX3 13 "BlockMoverModel" "size" "[I" ∈ wsX3_read := by decide +kernel
  have m_16 : Cond.fieldLink RX3 16 "BlockMoverModel" "places" "[I" ∈ wsX3_read := by decide +kernel
  have m_19 : Cond.fieldLink RX3 19 "BlockMoverModel" "words" "[J" ∈ wsX3_read := by decide +kernel
  have m_145 : Cond.fieldLink RX3 145 "BlockMoverModel" "latest" "J" ∈ wsX3_read := by decide +kernel
  unfold f_X3_read at hf
  refine lv_aload_n hx hb dX3_read_0 rfl (lv_at hl 0 rfl) ?_
  refine lv_iload_n hx hb dX3_read_1 rfl (lv_at hl 1 rfl) ?_
  refine lv_iconst (v := 2) hx hb dX3_read_2 (by decide) ?_
  obtain ⟨zv_1, hqzv_1, hf⟩ := ob hf
  refine gc_Vi hA hK hl.1 hG B (c_X3_isInode l D cI cJ h0 qk qs qp qw qr qo qn _ g x1 (2 : Int32) _ hqzv_1) (cwV 2 hts gX3_read_X3_isInode rfl rfl rfl (by decide +kernel) ⟨by decide, by decide⟩) 0 rfl rfl rfl rfl rfl (Nat.le_of_ble_eq_true rfl) dX3_read_3 ⟨Nat.zero_le _, Nat.zero_le _⟩ (fun H locs hG => ?_)
  refine lv_if_eq (tgt := 39) hx hb dX3_read_6 (by decide) (fun cq_2 => ?_) (fun cq_2 => ?_)
  · have hf := ifT cq_2 hf
    refine lv_iconst (v := -1) hx hb dX3_read_39 (by decide) ?_
    have hf := Option.some.inj hf
    obtain ⟨e1, e2⟩ := Prod.mk.inj hf
    subst e2
    exact g_iret hr hlk hK hG B rfl e1 dX3_read_40
  · have hf := ifF cq_2 hf
    refine lv_iload_n hx hb dX3_read_9 rfl (lv_at hl 2 rfl) ?_
    refine lv_i2l hx hb dX3_read_10 rfl ?_
    refine lv_lconst (v := 0) hx hb dX3_read_11 (by decide) ?_
    refine lv_aload_n hx hb dX3_read_12 rfl (lv_at hl 0 rfl) ?_
    refine g_get hK hG B hinX3 0 rfl rfl 1 (by decide) m_13 rfl dX3_read_13 ?_
    refine lv_iload_n hx hb dX3_read_16 rfl (lv_at hl 1 rfl) ?_
    obtain ⟨vq_3, hf⟩ := chk_s hf
    refine g_iald hK hG B 2 rfl vq_3 dX3_read_17 ?_
    refine lv_iconst (v := 1) hx hb dX3_read_18 (by decide) ?_
    refine lv_isub hx hb dX3_read_19 ?_
    refine lv_i2l hx hb dX3_read_20 rfl ?_
    refine gc_Si hA hK hl.1 hG B (c_X3_in l D (gT cI cJ) _ (wR h0 qk qs qp qw qr qo qn cI cJ g) x2.toInt64 (0 : Int64) ((R_size g x1.toNatClampNeg) - (1 : Int32)).toInt64 _ rfl) (va_cwS 3 hts gX3_read_X3_in rfl rfl rfl (by decide +kernel) ⟨by decide, by decide⟩) rfl rfl (Nat.le_of_ble_eq_true rfl) dX3_read_21 ⟨Nat.zero_le _, Nat.zero_le _⟩ (fun H locs hG => ?_)
    refine lv_if_eq (tgt := 39) hx hb dX3_read_24 (by decide) (fun cq_4 => ?_) (fun cq_4 => ?_)
    · have hf := ifT cq_4 hf
      refine lv_iconst (v := -1) hx hb dX3_read_39 (by decide) ?_
      have hf := Option.some.inj hf
      obtain ⟨e1, e2⟩ := Prod.mk.inj hf
      subst e2
      exact g_iret hr hlk hK hG B rfl e1 dX3_read_40
    · have hf := ifF cq_4 hf
      refine lv_iload_n hx hb dX3_read_27 rfl (lv_at hl 3 rfl) ?_
      refine lv_i2l hx hb dX3_read_28 rfl ?_
      refine lv_lconst (v := 0) hx hb dX3_read_29 (by decide) ?_
      refine lv_ldc2 (v := 2) hx hb B.2.2.2.1 (hts (.constantLong RX3 68 (2)) (by decide +kernel)) dX3_read_30 ?_
      refine gc_Si hA hK hl.1 hG B (c_X3_in l D (gT cI cJ) _ (wR h0 qk qs qp qw qr qo qn cI cJ g) x3.toInt64 (0 : Int64) (2 : Int64) _ rfl) (va_cwS 3 hts gX3_read_X3_in rfl rfl rfl (by decide +kernel) ⟨by decide, by decide⟩) rfl rfl (Nat.le_of_ble_eq_true rfl) dX3_read_33 ⟨Nat.zero_le _, Nat.zero_le _⟩ (fun H locs hG => ?_)
      refine lv_if_ne (tgt := 41) hx hb dX3_read_36 (by decide) (fun cq_5 => ?_) (fun cq_5 => ?_)
      · have hf := ifF cq_5 hf
        refine lv_aload_n hx hb dX3_read_41 rfl (lv_at hl 0 rfl) ?_
        refine lv_aload_n hx hb dX3_read_42 rfl (lv_at hl 0 rfl) ?_
        refine g_get hK hG B hinX3 0 rfl rfl 3 (by decide) m_19 rfl dX3_read_43 ?_
        refine lv_iconst (v := 3) hx hb dX3_read_46 (by decide) ?_
        refine lv_aload_n hx hb dX3_read_47 rfl (lv_at hl 0 rfl) ?_
        refine g_get hK hG B hinX3 0 rfl rfl 2 (by decide) m_16 rfl dX3_read_48 ?_
        refine lv_bipush (v := 8) hx hb dX3_read_51 (by decide) ?_
        refine lv_iload_n hx hb dX3_read_53 rfl (lv_at hl 1 rfl) ?_
        refine lv_imul hx hb dX3_read_54 ?_
        refine lv_iload_n hx hb dX3_read_55 rfl (lv_at hl 2 rfl) ?_
        refine lv_iadd hx hb dX3_read_56 ?_
        obtain ⟨vq_6, hf⟩ := chk_s hf
        refine g_iald hK hG B 3 rfl vq_6 dX3_read_57 ?_
        refine lv_imul hx hb dX3_read_58 ?_
        refine lv_iload_n hx hb dX3_read_59 rfl (lv_at hl 3 rfl) ?_
        refine lv_iadd hx hb dX3_read_60 ?_
        obtain ⟨vq_7, hf⟩ := chk_s hf
        refine g_lald hK hG B 4 rfl vq_7 dX3_read_61 ?_
        refine gp_R_lat hK hG B hinX3 m_145 dX3_read_62 (fun H locs hG => ?_)
        refine lv_iconst (v := 1) hx hb dX3_read_65 (by decide) ?_
        have hf := Option.some.inj hf
        obtain ⟨e1, e2⟩ := Prod.mk.inj hf
        subst e2
        exact g_iret hr hlk hK hG B rfl e1 dX3_read_66
      · have hf := ifT cq_5 hf
        refine lv_iconst (v := -1) hx hb dX3_read_39 (by decide) ?_
        have hf := Option.some.inj hf
        obtain ⟨e1, e2⟩ := Prod.mk.inj hf
        subst e2
        exact g_iret hr hlk hK hG B rfl e1 dX3_read_40
def f_X3_asked  (g : RS) : Int64 := (R_lat g)
set_option maxHeartbeats 4000000 in
set_option maxRecDepth 100000 in
theorem c_X3_asked (l : Launch) (D : va_G) (cI cJ : ClassId) (h0 qk qs qp qw qr qo qn sz : Nat) (g : RS)  (r : Int64) (hf : f_X3_asked  g = r) : Met l yX3_asked wsX3_asked { frames := 0, cells := 0, slots := 0, locals := 0 } (gPc D (gT cI cJ) sz (wR h0 qk qs qp qw qr qo qn cI cJ g) [.ref h0]) (gQl D (gT cI cJ) (va_A (wR h0 qk qs qp qw qr qo qn cI cJ g) sz) r (wR h0 qk qs qp qw qr qo qn cI cJ g)) 0 0 (va_A (wR h0 qk qs qp qw qr qo qn cI cJ g) sz) := by
  refine gMet (cc := cX3_asked) (maxL := 1) (ret := (some .long)) (by decide) rfl ?_ (Nat.le_of_ble_eq_true rfl)
  intro p e0 s m below meth c ls B hr hlk hsz hK hG hl
  have hA : ∀ q : Nat, s.heap.size ≤ q → va_A (wR h0 qk qs qp qw qr qo qn cI cJ g) sz q := fun q h => Or.inr (hsz ▸ h)
  have hx := B.1
  have hb := B.2.1
  have hts := B.2.2.2.2
  have hl : lv_has ls 1 [(0, .ref h0)] := hl
  generalize va_A (wR h0 qk qs qp qw qr qo qn cI cJ g) sz = A at hA hG ⊢
  have hinX3 : ∀ x ∈ wsX30, x ∈ wsX3_asked := by decide +kernel
  have m_145 : Cond.fieldLink RX3 145 "BlockMoverModel" "latest" "J" ∈ wsX3_asked := by decide +kernel
  unfold f_X3_asked at hf
  refine lv_aload_n hx hb dX3_asked_0 rfl (lv_at hl 0 rfl) ?_
  refine g_get hK hG B hinX3 0 rfl rfl 13 (by decide) m_145 rfl dX3_asked_1 ?_
  exact g_lret hr hlk hK hG B hf dX3_asked_4
def f_X3_record (x1 : Int32) (g : RS) : Option Int32 := (if (f_X3_in x1.toInt64 (0 : Int64) (3 : Int64)) = (0 : Int32) then some (-1 : Int32) else (chk x1 4 (some (R_rec g x1.toNatClampNeg))))
set_option maxHeartbeats 4000000 in
set_option maxRecDepth 100000 in
theorem c_X3_record (l : Launch) (D : va_G) (cI cJ : ClassId) (h0 qk qs qp qw qr qo qn sz : Nat) (g : RS) (x1 : Int32) (r : Int32) (hf : f_X3_record x1 g = some r) : Met l yX3_record wsX3_record { frames := 1, cells := 0, slots := 0, locals := 25 } (gPc D (gT cI cJ) sz (wR h0 qk qs qp qw qr qo qn cI cJ g) [.ref h0, .int x1]) (gQi D (gT cI cJ) (va_A (wR h0 qk qs qp qw qr qo qn cI cJ g) sz) r (wR h0 qk qs qp qw qr qo qn cI cJ g)) 0 0 (va_A (wR h0 qk qs qp qw qr qo qn cI cJ g) sz) := by
  refine gMet (cc := cX3_record) (maxL := 2) (ret := (some .int)) (by decide) rfl ?_ (Nat.le_of_ble_eq_true rfl)
  intro p e0 s m below meth c ls B hr hlk hsz hK hG hl
  have hA : ∀ q : Nat, s.heap.size ≤ q → va_A (wR h0 qk qs qp qw qr qo qn cI cJ g) sz q := fun q h => Or.inr (hsz ▸ h)
  have hx := B.1
  have hb := B.2.1
  have hts := B.2.2.2.2
  have hl : lv_has ls 2 [(0, .ref h0), (1, .int x1)] := hl
  generalize va_A (wR h0 qk qs qp qw qr qo qn cI cJ g) sz = A at hA hG ⊢
  have hinX3 : ∀ x ∈ wsX30, x ∈ wsX3_record := by decide +kernel
  have m_23 : Cond.fieldLink RX3 23 "BlockMoverModel" "rec" "[I" ∈ wsX3_record := by decide +kernel
  unfold f_X3_record at hf
  refine lv_iload_n hx hb dX3_record_0 rfl (lv_at hl 1 rfl) ?_
  refine lv_i2l hx hb dX3_record_1 rfl ?_
  refine lv_lconst (v := 0) hx hb dX3_record_2 (by decide) ?_
  refine lv_ldc2 (v := 3) hx hb B.2.2.2.1 (hts (.constantLong RX3 149 (3)) (by decide +kernel)) dX3_record_3 ?_
  refine gc_Si hA hK hl.1 hG B (c_X3_in l D (gT cI cJ) _ (wR h0 qk qs qp qw qr qo qn cI cJ g) x1.toInt64 (0 : Int64) (3 : Int64) _ rfl) (va_cwS 3 hts gX3_record_X3_in rfl rfl rfl (by decide +kernel) ⟨by decide, by decide⟩) rfl rfl (Nat.le_of_ble_eq_true rfl) dX3_record_6 ⟨Nat.zero_le _, Nat.zero_le _⟩ (fun H locs hG => ?_)
  refine lv_if_eq (tgt := 21) hx hb dX3_record_9 (by decide) (fun cq_1 => ?_) (fun cq_1 => ?_)
  · have hf := ifT cq_1 hf
    refine lv_iconst (v := -1) hx hb dX3_record_21 (by decide) ?_
    have hf := Option.some.inj hf
    exact g_iret hr hlk hK hG B rfl hf dX3_record_22
  · have hf := ifF cq_1 hf
    refine lv_aload_n hx hb dX3_record_12 rfl (lv_at hl 0 rfl) ?_
    refine g_get hK hG B hinX3 0 rfl rfl 4 (by decide) m_23 rfl dX3_record_13 ?_
    refine lv_iload_n hx hb dX3_record_16 rfl (lv_at hl 1 rfl) ?_
    obtain ⟨vq_2, hf⟩ := chk_s hf
    refine g_iald hK hG B 5 rfl vq_2 dX3_record_17 ?_
    refine lv_goto (tgt := 22) hx hb dX3_record_18 (by decide) ?_
    have hf := Option.some.inj hf
    exact g_iret hr hlk hK hG B rfl hf dX3_record_22
def f_X3_plan (x1 : Int32) (g : RS) : Option (Int32 × RS) := (if (f_X3_in x1.toInt64 (0 : Int64) (3 : Int64)) = (0 : Int32) then some ((-1 : Int32), g) else ((f_X3_look  g).bind (fun zv_2 => (if (1 : Int32) ≤ zv_2.1 then (if x1 = (0 : Int32) then some ((R_pf zv_2.2), zv_2.2) else (if x1 = (1 : Int32) then some ((R_pt zv_2.2), zv_2.2) else (if x1 = (2 : Int32) then some ((R_pi zv_2.2), zv_2.2) else some ((R_pp zv_2.2), zv_2.2)))) else (if zv_2.1 = (0 : Int32) then some ((-3 : Int32), zv_2.2) else some ((-5 : Int32), zv_2.2))))))
set_option maxHeartbeats 4000000 in
set_option maxRecDepth 100000 in
theorem c_X3_plan (l : Launch) (D : va_G) (cI cJ : ClassId) (h0 qk qs qp qw qr qo qn sz : Nat) (g : RS) (x1 : Int32) (r : Int32) (g1 : RS) (hf : f_X3_plan x1 g = some (r, g1)) : Met l yX3_plan wsX3_plan { frames := 4, cells := 0, slots := 0, locals := 92 } (gPc D (gT cI cJ) sz (wR h0 qk qs qp qw qr qo qn cI cJ g) [.ref h0, .int x1]) (gQi D (gT cI cJ) (va_A (wR h0 qk qs qp qw qr qo qn cI cJ g) sz) r (wR h0 qk qs qp qw qr qo qn cI cJ g1)) 0 0 (va_A (wR h0 qk qs qp qw qr qo qn cI cJ g) sz) := by
  refine gMet (cc := cX3_plan) (maxL := 3) (ret := (some .int)) (by decide) rfl ?_ (Nat.le_of_ble_eq_true rfl)
  intro p e0 s m below meth c ls B hr hlk hsz hK hG hl
  have hA : ∀ q : Nat, s.heap.size ≤ q → va_A (wR h0 qk qs qp qw qr qo qn cI cJ g) sz q := fun q h => Or.inr (hsz ▸ h)
  have hx := B.1
  have hb := B.2.1
  have hts := B.2.2.2.2
  have hl : lv_has ls 3 [(0, .ref h0), (1, .int x1)] := hl
  generalize va_A (wR h0 qk qs qp qw qr qo qn cI cJ g) sz = A at hA hG ⊢
  have hinX3 : ∀ x ∈ wsX30, x ∈ wsX3_plan := by decide +kernel
  have m_107 : Cond.fieldLink RX3 107 "BlockMoverModel" "planInode" "I" ∈ wsX3_plan := by decide +kernel
  have m_110 : Cond.fieldLink RX3 110 "BlockMoverModel" "planPlace" "I" ∈ wsX3_plan := by decide +kernel
  have m_113 : Cond.fieldLink RX3 113 "BlockMoverModel" "planTo" "I" ∈ wsX3_plan := by decide +kernel
  have m_119 : Cond.fieldLink RX3 119 "BlockMoverModel" "planFrom" "I" ∈ wsX3_plan := by decide +kernel
  unfold f_X3_plan at hf
  refine lv_iload_n hx hb dX3_plan_0 rfl (lv_at hl 1 rfl) ?_
  refine lv_i2l hx hb dX3_plan_1 rfl ?_
  refine lv_lconst (v := 0) hx hb dX3_plan_2 (by decide) ?_
  refine lv_ldc2 (v := 3) hx hb B.2.2.2.1 (hts (.constantLong RX3 149 (3)) (by decide +kernel)) dX3_plan_3 ?_
  refine gc_Si hA hK hl.1 hG B (c_X3_in l D (gT cI cJ) _ (wR h0 qk qs qp qw qr qo qn cI cJ g) x1.toInt64 (0 : Int64) (3 : Int64) _ rfl) (va_cwS 3 hts gX3_plan_X3_in rfl rfl rfl (by decide +kernel) ⟨by decide, by decide⟩) rfl rfl (Nat.le_of_ble_eq_true rfl) dX3_plan_6 ⟨Nat.zero_le _, Nat.zero_le _⟩ (fun H locs hG => ?_)
  refine lv_if_ne (tgt := 14) hx hb dX3_plan_9 (by decide) (fun cq_1 => ?_) (fun cq_1 => ?_)
  · have hf := ifF cq_1 hf
    refine lv_aload_n hx hb dX3_plan_14 rfl (lv_at hl 0 rfl) ?_
    obtain ⟨zv_2, hqzv_2, hf⟩ := ob hf
    refine gc_Vi hA hK hl.1 hG B (c_X3_look l D cI cJ h0 qk qs qp qw qr qo qn _ g  _ _ hqzv_2) (cwV 0 hts gX3_plan_X3_look rfl rfl rfl (by decide +kernel) ⟨by decide, by decide⟩) 0 rfl rfl rfl rfl rfl (Nat.le_of_ble_eq_true rfl) dX3_plan_15 ⟨Nat.zero_le _, Nat.zero_le _⟩ (fun H locs hG => ?_)
    refine lv_istore_n (lv' := [(2, .int zv_2.1), (0, .ref h0), (1, .int x1)]) hx hb dX3_plan_18 rfl hl (by decide) rfl (fun ls hl => ?_)
    refine lv_iload_n hx hb dX3_plan_19 rfl (lv_at hl 0 rfl) ?_
    refine lv_iconst (v := 1) hx hb dX3_plan_20 (by decide) ?_
    refine lv_icmp_ge (tgt := 36) hx hb dX3_plan_21 (by decide) (fun cq_3 => ?_) (fun cq_3 => ?_)
    · have hf := ifT cq_3 hf
      refine lv_iload_n hx hb dX3_plan_36 rfl (lv_at hl 2 rfl) ?_
      refine lv_if_ne (tgt := 47) hx hb dX3_plan_37 (by decide) (fun cq_4 => ?_) (fun cq_4 => ?_)
      · have hf := ifF cq_4 hf
        refine lv_iload_n hx hb dX3_plan_47 rfl (lv_at hl 2 rfl) ?_
        refine lv_iconst (v := 1) hx hb dX3_plan_48 (by decide) ?_
        refine lv_icmp_ne (tgt := 59) hx hb dX3_plan_49 (by decide) (fun cq_5 => ?_) (fun cq_5 => ?_)
        · have hf := ifF cq_5 hf
          refine lv_iload_n hx hb dX3_plan_59 rfl (lv_at hl 2 rfl) ?_
          refine lv_iconst (v := 2) hx hb dX3_plan_60 (by decide) ?_
          refine lv_icmp_ne (tgt := 71) hx hb dX3_plan_61 (by decide) (fun cq_6 => ?_) (fun cq_6 => ?_)
          · have hf := ifF cq_6 hf
            refine lv_aload_n hx hb dX3_plan_71 rfl (lv_at hl 1 rfl) ?_
            refine g_get hK hG B hinX3 0 rfl rfl 12 (by decide) m_110 rfl dX3_plan_72 ?_
            have hf := Option.some.inj hf
            obtain ⟨e1, e2⟩ := Prod.mk.inj hf
            subst e2
            exact g_iret hr hlk hK hG B rfl e1 dX3_plan_75
          · have hf := ifT cq_6 hf
            refine lv_aload_n hx hb dX3_plan_64 rfl (lv_at hl 1 rfl) ?_
            refine g_get hK hG B hinX3 0 rfl rfl 11 (by decide) m_107 rfl dX3_plan_65 ?_
            refine lv_goto (tgt := 75) hx hb dX3_plan_68 (by decide) ?_
            have hf := Option.some.inj hf
            obtain ⟨e1, e2⟩ := Prod.mk.inj hf
            subst e2
            exact g_iret hr hlk hK hG B rfl e1 dX3_plan_75
        · have hf := ifT cq_5 hf
          refine lv_aload_n hx hb dX3_plan_52 rfl (lv_at hl 1 rfl) ?_
          refine g_get hK hG B hinX3 0 rfl rfl 10 (by decide) m_113 rfl dX3_plan_53 ?_
          refine lv_goto (tgt := 75) hx hb dX3_plan_56 (by decide) ?_
          have hf := Option.some.inj hf
          obtain ⟨e1, e2⟩ := Prod.mk.inj hf
          subst e2
          exact g_iret hr hlk hK hG B rfl e1 dX3_plan_75
      · have hf := ifT cq_4 hf
        refine lv_aload_n hx hb dX3_plan_40 rfl (lv_at hl 1 rfl) ?_
        refine g_get hK hG B hinX3 0 rfl rfl 9 (by decide) m_119 rfl dX3_plan_41 ?_
        refine lv_goto (tgt := 75) hx hb dX3_plan_44 (by decide) ?_
        have hf := Option.some.inj hf
        obtain ⟨e1, e2⟩ := Prod.mk.inj hf
        subst e2
        exact g_iret hr hlk hK hG B rfl e1 dX3_plan_75
    · have hf := ifF cq_3 hf
      refine lv_iload_n hx hb dX3_plan_24 rfl (lv_at hl 0 rfl) ?_
      refine lv_if_ne (tgt := 33) hx hb dX3_plan_25 (by decide) (fun cq_7 => ?_) (fun cq_7 => ?_)
      · have hf := ifF cq_7 hf
        refine lv_bipush (v := -5) hx hb dX3_plan_33 (by decide) ?_
        have hf := Option.some.inj hf
        obtain ⟨e1, e2⟩ := Prod.mk.inj hf
        subst e2
        exact g_iret hr hlk hK hG B rfl e1 dX3_plan_35
      · have hf := ifT cq_7 hf
        refine lv_bipush (v := -3) hx hb dX3_plan_28 (by decide) ?_
        refine lv_goto (tgt := 35) hx hb dX3_plan_30 (by decide) ?_
        have hf := Option.some.inj hf
        obtain ⟨e1, e2⟩ := Prod.mk.inj hf
        subst e2
        exact g_iret hr hlk hK hG B rfl e1 dX3_plan_35
  · have hf := ifT cq_1 hf
    refine lv_iconst (v := -1) hx hb dX3_plan_12 (by decide) ?_
    have hf := Option.some.inj hf
    obtain ⟨e1, e2⟩ := Prod.mk.inj hf
    subst e2
    exact g_iret hr hlk hK hG B rfl e1 dX3_plan_13
def b_X3_runs_15 (y1_15 : Int32) (g : RS) (y2_15 : Int32) (y3_15 : Int32) : Option ((Int32) ⊕ (Int32 × Int32)) := (chk y1_15 12 ((if (R_size g y1_15.toNatClampNeg) ≤ y3_15 then some (.inl y2_15) else (if y3_15 = (0 : Int32) then some (.inr ((y2_15 + (1 : Int32)), (y3_15 + (1 : Int32)))) else (chk (((8 : Int32) * y1_15) + y3_15) 96 ((chk ((((8 : Int32) * y1_15) + y3_15) - (1 : Int32)) 96 ((if (R_pl g (((8 : Int32) * y1_15) + y3_15).toNatClampNeg) = ((R_pl g ((((8 : Int32) * y1_15) + y3_15) - (1 : Int32)).toNatClampNeg) + (1 : Int32)) then some (.inr ((y2_15 + (0 : Int32)), (y3_15 + (1 : Int32)))) else some (.inr ((y2_15 + (1 : Int32)), (y3_15 + (1 : Int32)))))))))))))
def f_X3_runs (x1 : Int32) (g : RS) : Option Int32 := ((f_X3_isInode x1 (2 : Int32) g).bind (fun zv_1 => (if zv_1 = (0 : Int32) then some (-1 : Int32) else ((itl (fun a : Int32 × Int32 => b_X3_runs_15 x1 g a.1 a.2) 300 ((0 : Int32), (0 : Int32))).bind (fun ev_9 => some ev_9)))))
set_option maxHeartbeats 4000000 in
set_option maxRecDepth 100000 in
theorem c_X3_runs (l : Launch) (D : va_G) (cI cJ : ClassId) (h0 qk qs qp qw qr qo qn sz : Nat) (g : RS) (x1 : Int32) (r : Int32) (hf : f_X3_runs x1 g = some r) : Met l yX3_runs wsX3_runs { frames := 2, cells := 0, slots := 0, locals := 47 } (gPc D (gT cI cJ) sz (wR h0 qk qs qp qw qr qo qn cI cJ g) [.ref h0, .int x1]) (gQi D (gT cI cJ) (va_A (wR h0 qk qs qp qw qr qo qn cI cJ g) sz) r (wR h0 qk qs qp qw qr qo qn cI cJ g)) 0 0 (va_A (wR h0 qk qs qp qw qr qo qn cI cJ g) sz) := by
  refine gMet (cc := cX3_runs) (maxL := 4) (ret := (some .int)) (by decide) rfl ?_ (Nat.le_of_ble_eq_true rfl)
  intro p e0 s m below meth c ls B hr hlk hsz hK hG hl
  have hA : ∀ q : Nat, s.heap.size ≤ q → va_A (wR h0 qk qs qp qw qr qo qn cI cJ g) sz q := fun q h => Or.inr (hsz ▸ h)
  have hx := B.1
  have hb := B.2.1
  have hts := B.2.2.2.2
  have hl : lv_has ls 4 [(0, .ref h0), (1, .int x1)] := hl
  generalize va_A (wR h0 qk qs qp qw qr qo qn cI cJ g) sz = A at hA hG ⊢
  have hinX3 : ∀ x ∈ wsX30, x ∈ wsX3_runs := by decide +kernel
  have m_13 : Cond.fieldLink RX3 13 "BlockMoverModel" "size" "[I" ∈ wsX3_runs := by decide +kernel
  have m_16 : Cond.fieldLink RX3 16 "BlockMoverModel" "places" "[I" ∈ wsX3_runs := by decide +kernel
  have L15 : ∀ (res : (Int32)) (y1_15 : Int32), (∀ (H1 : Heap) (locs1 : List Loc) (ls1 : Array Slot) (e : Int32), res = e → gG D A s.heap (wR h0 qk qs qp qw qr qo qn cI cJ g) H1 locs1 → lv_has ls1 4 [(2, .int e)] → W p l e0 { frames := 2, cells := 0, slots := 0, locals := 47 } s m ([.ref h0, .int x1] : List Value).toArray below meth c H1 locs1 0 0 (MQ below (gQi D (gT cI cJ) A r (wR h0 qk qs qp qw qr qo qn cI cJ g)) ([.ref h0, .int x1] : List Value).toArray s 0 0 A) (F0 m 72 ls1 [])) → ∀ (n : Nat) (y2_15 : Int32) (y3_15 : Int32) (H : Heap) (locs : List Loc) (ls : Array Slot), gG D A s.heap (wR h0 qk qs qp qw qr qo qn cI cJ g) H locs → lv_has ls 4 [(0, .ref h0), (1, .int y1_15), (2, .int y2_15), (3, .int y3_15)] → itl (fun a : Int32 × Int32 => b_X3_runs_15 y1_15 g a.1 a.2) n (y2_15, y3_15) = some res → W p l e0 { frames := 2, cells := 0, slots := 0, locals := 47 } s m ([.ref h0, .int x1] : List Value).toArray below meth c H locs 0 0 (MQ below (gQi D (gT cI cJ) A r (wR h0 qk qs qp qw qr qo qn cI cJ g)) ([.ref h0, .int x1] : List Value).toArray s 0 0 A) (F0 m 15 ls []) := by
    intro res y1_15 hKe15 n
    induction n with
    | zero => exact fun y2_15 y3_15 H locs ls hG hl hf => (itl_0 hf).elim
    | succ n ih =>
      intro y2_15 y3_15 H locs ls hG hl hf
      obtain ⟨o, hf, ho15, hn15⟩ := itl_s hf
      have hf : b_X3_runs_15 y1_15 g y2_15 y3_15 = some o := hf
      unfold b_X3_runs_15 at hf
      refine lv_iload_n hx hb dX3_runs_15 rfl (lv_at hl 3 rfl) ?_
      refine lv_aload_n hx hb dX3_runs_16 rfl (lv_at hl 0 rfl) ?_
      refine g_get hK hG B hinX3 0 rfl rfl 1 (by decide) m_13 rfl dX3_runs_17 ?_
      refine lv_iload_n hx hb dX3_runs_20 rfl (lv_at hl 1 rfl) ?_
      obtain ⟨vq_3, hf⟩ := chk_s hf
      refine g_iald hK hG B 2 rfl vq_3 dX3_runs_21 ?_
      refine lv_icmp_ge (tgt := 72) hx hb dX3_runs_22 (by decide) (fun cq_4 => ?_) (fun cq_4 => ?_)
      · have hf := ifT cq_4 hf
        have hres := ho15 _ (Option.some.inj hf).symm
        exact hKe15 _ _ _ y2_15 hres.symm hG (lv_sub hl [2] rfl)
      · have hf := ifF cq_4 hf
        refine lv_iload_n hx hb dX3_runs_25 rfl (lv_at hl 2 rfl) ?_
        refine lv_iload_n hx hb dX3_runs_26 rfl (lv_at hl 3 rfl) ?_
        refine lv_if_eq (tgt := 59) hx hb dX3_runs_27 (by decide) (fun cq_5 => ?_) (fun cq_5 => ?_)
        · have hf := ifT cq_5 hf
          refine lv_iconst (v := 1) hx hb dX3_runs_59 (by decide) ?_
          refine lv_goto (tgt := 64) hx hb dX3_runs_60 (by decide) ?_
          refine lv_iadd hx hb dX3_runs_64 ?_
          refine lv_istore_n (lv' := [(2, .int (y2_15 + (1 : Int32))), (0, .ref h0), (1, .int y1_15), (3, .int y3_15)]) hx hb dX3_runs_65 rfl hl (by decide) rfl (fun ls hl => ?_)
          refine lv_iinc (v := (y3_15 + (1 : Int32))) (lv' := [(3, .int (y3_15 + (1 : Int32))), (2, .int (y2_15 + (1 : Int32))), (0, .ref h0), (1, .int y1_15)]) hx hb dX3_runs_66 hl (k := 3) rfl rfl (by decide) rfl (fun ls hl => ?_)
          refine lv_goto (tgt := 15) hx hb dX3_runs_69 (by decide) ?_
          have hn := hn15 _ (Option.some.inj hf).symm
          exact ih (y2_15 + (1 : Int32)) (y3_15 + (1 : Int32)) _ _ _ hG (lv_sub hl [2, 3, 1, 0] rfl) hn
        · have hf := ifF cq_5 hf
          refine lv_aload_n hx hb dX3_runs_30 rfl (lv_at hl 0 rfl) ?_
          refine g_get hK hG B hinX3 0 rfl rfl 2 (by decide) m_16 rfl dX3_runs_31 ?_
          refine lv_bipush (v := 8) hx hb dX3_runs_34 (by decide) ?_
          refine lv_iload_n hx hb dX3_runs_36 rfl (lv_at hl 1 rfl) ?_
          refine lv_imul hx hb dX3_runs_37 ?_
          refine lv_iload_n hx hb dX3_runs_38 rfl (lv_at hl 3 rfl) ?_
          refine lv_iadd hx hb dX3_runs_39 ?_
          obtain ⟨vq_6, hf⟩ := chk_s hf
          refine g_iald hK hG B 3 rfl vq_6 dX3_runs_40 ?_
          refine lv_aload_n hx hb dX3_runs_41 rfl (lv_at hl 0 rfl) ?_
          refine g_get hK hG B hinX3 0 rfl rfl 2 (by decide) m_16 rfl dX3_runs_42 ?_
          refine lv_bipush (v := 8) hx hb dX3_runs_45 (by decide) ?_
          refine lv_iload_n hx hb dX3_runs_47 rfl (lv_at hl 1 rfl) ?_
          refine lv_imul hx hb dX3_runs_48 ?_
          refine lv_iload_n hx hb dX3_runs_49 rfl (lv_at hl 3 rfl) ?_
          refine lv_iadd hx hb dX3_runs_50 ?_
          refine lv_iconst (v := 1) hx hb dX3_runs_51 (by decide) ?_
          refine lv_isub hx hb dX3_runs_52 ?_
          obtain ⟨vq_7, hf⟩ := chk_s hf
          refine g_iald hK hG B 3 rfl vq_7 dX3_runs_53 ?_
          refine lv_iconst (v := 1) hx hb dX3_runs_54 (by decide) ?_
          refine lv_iadd hx hb dX3_runs_55 ?_
          refine lv_icmp_eq (tgt := 63) hx hb dX3_runs_56 (by decide) (fun cq_8 => ?_) (fun cq_8 => ?_)
          · have hf := ifT cq_8 hf
            refine lv_iconst (v := 0) hx hb dX3_runs_63 (by decide) ?_
            refine lv_iadd hx hb dX3_runs_64 ?_
            refine lv_istore_n (lv' := [(2, .int (y2_15 + (0 : Int32))), (0, .ref h0), (1, .int y1_15), (3, .int y3_15)]) hx hb dX3_runs_65 rfl hl (by decide) rfl (fun ls hl => ?_)
            refine lv_iinc (v := (y3_15 + (1 : Int32))) (lv' := [(3, .int (y3_15 + (1 : Int32))), (2, .int (y2_15 + (0 : Int32))), (0, .ref h0), (1, .int y1_15)]) hx hb dX3_runs_66 hl (k := 3) rfl rfl (by decide) rfl (fun ls hl => ?_)
            refine lv_goto (tgt := 15) hx hb dX3_runs_69 (by decide) ?_
            have hn := hn15 _ (Option.some.inj hf).symm
            exact ih (y2_15 + (0 : Int32)) (y3_15 + (1 : Int32)) _ _ _ hG (lv_sub hl [2, 3, 1, 0] rfl) hn
          · have hf := ifF cq_8 hf
            refine lv_iconst (v := 1) hx hb dX3_runs_59 (by decide) ?_
            refine lv_goto (tgt := 64) hx hb dX3_runs_60 (by decide) ?_
            refine lv_iadd hx hb dX3_runs_64 ?_
            refine lv_istore_n (lv' := [(2, .int (y2_15 + (1 : Int32))), (0, .ref h0), (1, .int y1_15), (3, .int y3_15)]) hx hb dX3_runs_65 rfl hl (by decide) rfl (fun ls hl => ?_)
            refine lv_iinc (v := (y3_15 + (1 : Int32))) (lv' := [(3, .int (y3_15 + (1 : Int32))), (2, .int (y2_15 + (1 : Int32))), (0, .ref h0), (1, .int y1_15)]) hx hb dX3_runs_66 hl (k := 3) rfl rfl (by decide) rfl (fun ls hl => ?_)
            refine lv_goto (tgt := 15) hx hb dX3_runs_69 (by decide) ?_
            have hn := hn15 _ (Option.some.inj hf).symm
            exact ih (y2_15 + (1 : Int32)) (y3_15 + (1 : Int32)) _ _ _ hG (lv_sub hl [2, 3, 1, 0] rfl) hn
  unfold f_X3_runs at hf
  refine lv_aload_n hx hb dX3_runs_0 rfl (lv_at hl 0 rfl) ?_
  refine lv_iload_n hx hb dX3_runs_1 rfl (lv_at hl 1 rfl) ?_
  refine lv_iconst (v := 2) hx hb dX3_runs_2 (by decide) ?_
  obtain ⟨zv_1, hqzv_1, hf⟩ := ob hf
  refine gc_Vi hA hK hl.1 hG B (c_X3_isInode l D cI cJ h0 qk qs qp qw qr qo qn _ g x1 (2 : Int32) _ hqzv_1) (cwV 2 hts gX3_runs_X3_isInode rfl rfl rfl (by decide +kernel) ⟨by decide, by decide⟩) 0 rfl rfl rfl rfl rfl (Nat.le_of_ble_eq_true rfl) dX3_runs_3 ⟨Nat.zero_le _, Nat.zero_le _⟩ (fun H locs hG => ?_)
  refine lv_if_ne (tgt := 11) hx hb dX3_runs_6 (by decide) (fun cq_2 => ?_) (fun cq_2 => ?_)
  · have hf := ifF cq_2 hf
    refine lv_iconst (v := 0) hx hb dX3_runs_11 (by decide) ?_
    refine lv_istore_n (lv' := [(2, .int (0 : Int32)), (0, .ref h0), (1, .int x1)]) hx hb dX3_runs_12 rfl hl (by decide) rfl (fun ls hl => ?_)
    refine lv_iconst (v := 0) hx hb dX3_runs_13 (by decide) ?_
    refine lv_istore_n (lv' := [(3, .int (0 : Int32)), (2, .int (0 : Int32)), (0, .ref h0), (1, .int x1)]) hx hb dX3_runs_14 rfl hl (by decide) rfl (fun ls hl => ?_)
    obtain ⟨zv_9, hizv_9, hf⟩ := ob hf
    refine L15 zv_9 x1 (fun H locs ls ev_9 hres hG hl => ?_) 300 (0 : Int32) (0 : Int32) _ _ _ hG (lv_sub hl [2, 3, 1, 0] rfl) hizv_9
    have hres := hres.symm
    subst hres
    refine lv_iload_n hx hb dX3_runs_72 rfl (lv_at hl 0 rfl) ?_
    have hf := Option.some.inj hf
    exact g_iret hr hlk hK hG B rfl hf dX3_runs_73
  · have hf := ifT cq_2 hf
    refine lv_iconst (v := -1) hx hb dX3_runs_9 (by decide) ?_
    have hf := Option.some.inj hf
    exact g_iret hr hlk hK hG B rfl hf dX3_runs_10
