def f_X3_put (x1 : Int32) (x2 : Int32) (x3 : Int32) (x4 : Int64) (g : RS) : Option (Int32 × RS) := ((f_X3_isInode x1 (2 : Int32) g).bind (fun zv_1 => (if zv_1 = (0 : Int32) then some ((-1 : Int32), g) else (chk x1 12 ((if (f_X3_in x2.toInt64 (0 : Int64) ((R_size g x1.toNatClampNeg) - (1 : Int32)).toInt64) = (0 : Int32) then some ((-1 : Int32), g) else (if (f_X3_in x3.toInt64 (0 : Int64) (2 : Int64)) = (0 : Int32) then some ((-1 : Int32), g) else (if (R_down g) = (0 : Int32) then (chk (((8 : Int32) * x1) + x2) 96 (((f_X3_setData (R_pl g (((8 : Int32) * x1) + x2).toNatClampNeg) x3 x4 g).bind (fun zv_8 => (if (R_down zv_8) = (0 : Int32) then some ((1 : Int32), zv_8) else some ((-2 : Int32), zv_8)))))) else some ((-2 : Int32), g)))))))))
set_option maxHeartbeats 4000000 in
set_option maxRecDepth 100000 in
theorem c_X3_put (l : Launch) (D : va_G) (cI cJ : ClassId) (h0 qk qs qp qw qr qo qn sz : Nat) (g : RS) (x1 : Int32) (x2 : Int32) (x3 : Int32) (x4 : Int64) (r : Int32) (g1 : RS) (hf : f_X3_put x1 x2 x3 x4 g = some (r, g1)) : Met l yX3_put wsX3_put { frames := 2, cells := 0, slots := 0, locals := 47 } (gPc D (gT cI cJ) sz (wR h0 qk qs qp qw qr qo qn cI cJ g) [.ref h0, .int x1, .int x2, .int x3, .long x4]) (gQi D (gT cI cJ) (va_A (wR h0 qk qs qp qw qr qo qn cI cJ g) sz) r (wR h0 qk qs qp qw qr qo qn cI cJ g1)) 0 0 (va_A (wR h0 qk qs qp qw qr qo qn cI cJ g) sz) := by
  refine gMet (cc := cX3_put) (maxL := 6) (ret := (some .int)) (by decide) rfl ?_ (Nat.le_of_ble_eq_true rfl)
  intro p e0 s m below meth c ls B hr hlk hsz hK hG hl
  have hA : ∀ q : Nat, s.heap.size ≤ q → va_A (wR h0 qk qs qp qw qr qo qn cI cJ g) sz q := fun q h => Or.inr (hsz ▸ h)
  have hx := B.1
  have hb := B.2.1
  have hts := B.2.2.2.2
  have hl : lv_has ls 6 [(0, .ref h0), (1, .int x1), (2, .int x2), (3, .int x3), (4, .long x4)] := hl
  generalize va_A (wR h0 qk qs qp qw qr qo qn cI cJ g) sz = A at hA hG ⊢
  have hinX3 : ∀ x ∈ wsX30, x ∈ wsX3_put := by decide +kernel
  have m_13 : Cond.fieldLink RX3 13 "BlockMoverModel" "size" "[I" ∈ wsX3_put := by decide +kernel
  have m_16 : Cond.fieldLink RX3 16 "BlockMoverModel" "places" "[I" ∈ wsX3_put := by decide +kernel
  have m_36 : Cond.fieldLink RX3 36 "BlockMoverModel" "down" "Z" ∈ wsX3_put := by decide +kernel
  unfold f_X3_put at hf
  refine lv_aload_n hx hb dX3_put_0 rfl (lv_at hl 0 rfl) ?_
  refine lv_iload_n hx hb dX3_put_1 rfl (lv_at hl 1 rfl) ?_
  refine lv_iconst (v := 2) hx hb dX3_put_2 (by decide) ?_
  obtain ⟨zv_1, hqzv_1, hf⟩ := ob hf
  refine gc_Vi hA hK hl.1 hG B (c_X3_isInode l D cI cJ h0 qk qs qp qw qr qo qn _ g x1 (2 : Int32) _ hqzv_1) (cwV 2 hts gX3_put_X3_isInode rfl rfl rfl (by decide +kernel) ⟨by decide, by decide⟩) 0 rfl rfl rfl rfl rfl (Nat.le_of_ble_eq_true rfl) dX3_put_3 ⟨Nat.zero_le _, Nat.zero_le _⟩ (fun H locs hG => ?_)
  refine lv_if_eq (tgt := 39) hx hb dX3_put_6 (by decide) (fun cq_2 => ?_) (fun cq_2 => ?_)
  · have hf := ifT cq_2 hf
    refine lv_iconst (v := -1) hx hb dX3_put_39 (by decide) ?_
    have hf := Option.some.inj hf
    obtain ⟨e1, e2⟩ := Prod.mk.inj hf
    subst e2
    exact g_iret hr hlk hK hG B rfl e1 dX3_put_40
  · have hf := ifF cq_2 hf
    refine lv_iload_n hx hb dX3_put_9 rfl (lv_at hl 2 rfl) ?_
    refine lv_i2l hx hb dX3_put_10 rfl ?_
    refine lv_lconst (v := 0) hx hb dX3_put_11 (by decide) ?_
    refine lv_aload_n hx hb dX3_put_12 rfl (lv_at hl 0 rfl) ?_
    refine g_get hK hG B hinX3 0 rfl rfl 1 (by decide) m_13 rfl dX3_put_13 ?_
    refine lv_iload_n hx hb dX3_put_16 rfl (lv_at hl 1 rfl) ?_
    obtain ⟨vq_3, hf⟩ := chk_s hf
    refine g_iald hK hG B 2 rfl vq_3 dX3_put_17 ?_
    refine lv_iconst (v := 1) hx hb dX3_put_18 (by decide) ?_
    refine lv_isub hx hb dX3_put_19 ?_
    refine lv_i2l hx hb dX3_put_20 rfl ?_
    refine gc_Si hA hK hl.1 hG B (c_X3_in l D (gT cI cJ) _ (wR h0 qk qs qp qw qr qo qn cI cJ g) x2.toInt64 (0 : Int64) ((R_size g x1.toNatClampNeg) - (1 : Int32)).toInt64 _ rfl) (va_cwS 3 hts gX3_put_X3_in rfl rfl rfl (by decide +kernel) ⟨by decide, by decide⟩) rfl rfl (Nat.le_of_ble_eq_true rfl) dX3_put_21 ⟨Nat.zero_le _, Nat.zero_le _⟩ (fun H locs hG => ?_)
    refine lv_if_eq (tgt := 39) hx hb dX3_put_24 (by decide) (fun cq_4 => ?_) (fun cq_4 => ?_)
    · have hf := ifT cq_4 hf
      refine lv_iconst (v := -1) hx hb dX3_put_39 (by decide) ?_
      have hf := Option.some.inj hf
      obtain ⟨e1, e2⟩ := Prod.mk.inj hf
      subst e2
      exact g_iret hr hlk hK hG B rfl e1 dX3_put_40
    · have hf := ifF cq_4 hf
      refine lv_iload_n hx hb dX3_put_27 rfl (lv_at hl 3 rfl) ?_
      refine lv_i2l hx hb dX3_put_28 rfl ?_
      refine lv_lconst (v := 0) hx hb dX3_put_29 (by decide) ?_
      refine lv_ldc2 (v := 2) hx hb B.2.2.2.1 (hts (.constantLong RX3 68 (2)) (by decide +kernel)) dX3_put_30 ?_
      refine gc_Si hA hK hl.1 hG B (c_X3_in l D (gT cI cJ) _ (wR h0 qk qs qp qw qr qo qn cI cJ g) x3.toInt64 (0 : Int64) (2 : Int64) _ rfl) (va_cwS 3 hts gX3_put_X3_in rfl rfl rfl (by decide +kernel) ⟨by decide, by decide⟩) rfl rfl (Nat.le_of_ble_eq_true rfl) dX3_put_33 ⟨Nat.zero_le _, Nat.zero_le _⟩ (fun H locs hG => ?_)
      refine lv_if_ne (tgt := 41) hx hb dX3_put_36 (by decide) (fun cq_5 => ?_) (fun cq_5 => ?_)
      · have hf := ifF cq_5 hf
        refine lv_aload_n hx hb dX3_put_41 rfl (lv_at hl 0 rfl) ?_
        refine g_get hK hG B hinX3 0 rfl rfl 5 (by decide) m_36 rfl dX3_put_42 ?_
        refine lv_if_eq (tgt := 51) hx hb dX3_put_45 (by decide) (fun cq_6 => ?_) (fun cq_6 => ?_)
        · have hf := ifT cq_6 hf
          refine lv_aload_n hx hb dX3_put_51 rfl (lv_at hl 0 rfl) ?_
          refine lv_aload_n hx hb dX3_put_52 rfl (lv_at hl 0 rfl) ?_
          refine g_get hK hG B hinX3 0 rfl rfl 2 (by decide) m_16 rfl dX3_put_53 ?_
          refine lv_bipush (v := 8) hx hb dX3_put_56 (by decide) ?_
          refine lv_iload_n hx hb dX3_put_58 rfl (lv_at hl 1 rfl) ?_
          refine lv_imul hx hb dX3_put_59 ?_
          refine lv_iload_n hx hb dX3_put_60 rfl (lv_at hl 2 rfl) ?_
          refine lv_iadd hx hb dX3_put_61 ?_
          obtain ⟨vq_7, hf⟩ := chk_s hf
          refine g_iald hK hG B 3 rfl vq_7 dX3_put_62 ?_
          refine lv_iload_n hx hb dX3_put_63 rfl (lv_at hl 3 rfl) ?_
          refine lv_lload hx hb dX3_put_64 (lv_at hl 4 rfl) ?_
          obtain ⟨zv_8, hqzv_8, hf⟩ := ob hf
          refine gc_Vv hA hK hl.1 hG B (c_X3_setData l D cI cJ h0 qk qs qp qw qr qo qn _ g (R_pl g (((8 : Int32) * x1) + x2).toNatClampNeg) x3 x4 _ hqzv_8) (cwV 3 hts gX3_put_X3_setData rfl rfl rfl (by decide +kernel) ⟨by decide, by decide⟩) 0 rfl rfl rfl rfl rfl (Nat.le_of_ble_eq_true rfl) dX3_put_66 ⟨Nat.zero_le _, Nat.zero_le _⟩ (fun H locs hG => ?_)
          refine lv_aload_n hx hb dX3_put_69 rfl (lv_at hl 0 rfl) ?_
          refine g_get hK hG B hinX3 0 rfl rfl 5 (by decide) m_36 rfl dX3_put_70 ?_
          refine lv_if_eq (tgt := 81) hx hb dX3_put_73 (by decide) (fun cq_9 => ?_) (fun cq_9 => ?_)
          · have hf := ifT cq_9 hf
            refine lv_iconst (v := 1) hx hb dX3_put_81 (by decide) ?_
            have hf := Option.some.inj hf
            obtain ⟨e1, e2⟩ := Prod.mk.inj hf
            subst e2
            exact g_iret hr hlk hK hG B rfl e1 dX3_put_82
          · have hf := ifF cq_9 hf
            refine lv_bipush (v := -2) hx hb dX3_put_76 (by decide) ?_
            refine lv_goto (tgt := 82) hx hb dX3_put_78 (by decide) ?_
            have hf := Option.some.inj hf
            obtain ⟨e1, e2⟩ := Prod.mk.inj hf
            subst e2
            exact g_iret hr hlk hK hG B rfl e1 dX3_put_82
        · have hf := ifF cq_6 hf
          refine lv_bipush (v := -2) hx hb dX3_put_48 (by decide) ?_
          have hf := Option.some.inj hf
          obtain ⟨e1, e2⟩ := Prod.mk.inj hf
          subst e2
          exact g_iret hr hlk hK hG B rfl e1 dX3_put_50
      · have hf := ifT cq_5 hf
        refine lv_iconst (v := -1) hx hb dX3_put_39 (by decide) ?_
        have hf := Option.some.inj hf
        obtain ⟨e1, e2⟩ := Prod.mk.inj hf
        subst e2
        exact g_iret hr hlk hK hG B rfl e1 dX3_put_40
def b_X3_hasEntries_2 (y1_2 : Int32) (g : RS) (y2_2 : Int32) : Option (((Int32) ⊕ (Unit)) ⊕ (Int32)) := (if (8 : Int32) ≤ y2_2 then some (.inl (.inr ())) else (chk (((8 : Int32) * y1_2) + y2_2) 96 ((if (R_pl g (((8 : Int32) * y1_2) + y2_2).toNatClampNeg) = (0 : Int32) then some (.inr (y2_2 + (1 : Int32))) else some (.inl (.inl (1 : Int32)))))))
def f_X3_hasEntries (x1 : Int32) (g : RS) : Option Int32 := ((itl (fun a : Int32 => b_X3_hasEntries_2 x1 g a) 300 (0 : Int32)).bind (fun zv_4 => Sum.elim (fun v => some v) (fun ev_4 => some (0 : Int32)) zv_4))
set_option maxHeartbeats 4000000 in
set_option maxRecDepth 100000 in
theorem c_X3_hasEntries (l : Launch) (D : va_G) (cI cJ : ClassId) (h0 qk qs qp qw qr qo qn sz : Nat) (g : RS) (x1 : Int32) (r : Int32) (hf : f_X3_hasEntries x1 g = some r) : Met l yX3_hasEntries wsX3_hasEntries { frames := 0, cells := 0, slots := 0, locals := 0 } (gPc D (gT cI cJ) sz (wR h0 qk qs qp qw qr qo qn cI cJ g) [.ref h0, .int x1]) (gQi D (gT cI cJ) (va_A (wR h0 qk qs qp qw qr qo qn cI cJ g) sz) r (wR h0 qk qs qp qw qr qo qn cI cJ g)) 0 0 (va_A (wR h0 qk qs qp qw qr qo qn cI cJ g) sz) := by
  refine gMet (cc := cX3_hasEntries) (maxL := 3) (ret := (some .boolean)) (by decide) rfl ?_ (Nat.le_of_ble_eq_true rfl)
  intro p e0 s m below meth c ls B hr hlk hsz hK hG hl
  have hA : ∀ q : Nat, s.heap.size ≤ q → va_A (wR h0 qk qs qp qw qr qo qn cI cJ g) sz q := fun q h => Or.inr (hsz ▸ h)
  have hx := B.1
  have hb := B.2.1
  have hts := B.2.2.2.2
  have hl : lv_has ls 3 [(0, .ref h0), (1, .int x1)] := hl
  generalize va_A (wR h0 qk qs qp qw qr qo qn cI cJ g) sz = A at hA hG ⊢
  have hinX3 : ∀ x ∈ wsX30, x ∈ wsX3_hasEntries := by decide +kernel
  have m_16 : Cond.fieldLink RX3 16 "BlockMoverModel" "places" "[I" ∈ wsX3_hasEntries := by decide +kernel
  have L2 : ∀ (res : ((Int32) ⊕ (Unit))) (y1_2 : Int32), (∀ v, res = .inl v → v = r) → (∀ (H1 : Heap) (locs1 : List Loc) (ls1 : Array Slot) (e : Unit), res = .inr e → gG D A s.heap (wR h0 qk qs qp qw qr qo qn cI cJ g) H1 locs1 → lv_has ls1 3 [] → W p l e0 { frames := 0, cells := 0, slots := 0, locals := 0 } s m ([.ref h0, .int x1] : List Value).toArray below meth c H1 locs1 0 0 (MQ below (gQi D (gT cI cJ) A r (wR h0 qk qs qp qw qr qo qn cI cJ g)) ([.ref h0, .int x1] : List Value).toArray s 0 0 A) (F0 m 30 ls1 [])) → ∀ (n : Nat) (y2_2 : Int32) (H : Heap) (locs : List Loc) (ls : Array Slot), gG D A s.heap (wR h0 qk qs qp qw qr qo qn cI cJ g) H locs → lv_has ls 3 [(0, .ref h0), (1, .int y1_2), (2, .int y2_2)] → itl (fun a : Int32 => b_X3_hasEntries_2 y1_2 g a) n y2_2 = some res → W p l e0 { frames := 0, cells := 0, slots := 0, locals := 0 } s m ([.ref h0, .int x1] : List Value).toArray below meth c H locs 0 0 (MQ below (gQi D (gT cI cJ) A r (wR h0 qk qs qp qw qr qo qn cI cJ g)) ([.ref h0, .int x1] : List Value).toArray s 0 0 A) (F0 m 2 ls []) := by
    intro res y1_2 hKr2 hKe2 n
    induction n with
    | zero => exact fun y2_2 H locs ls hG hl hf => (itl_0 hf).elim
    | succ n ih =>
      intro y2_2 H locs ls hG hl hf
      obtain ⟨o, hf, ho2, hn2⟩ := itl_s hf
      have hf : b_X3_hasEntries_2 y1_2 g y2_2 = some o := hf
      unfold b_X3_hasEntries_2 at hf
      refine lv_iload_n hx hb dX3_hasEntries_2 rfl (lv_at hl 2 rfl) ?_
      refine lv_bipush (v := 8) hx hb dX3_hasEntries_3 (by decide) ?_
      refine lv_icmp_ge (tgt := 30) hx hb dX3_hasEntries_5 (by decide) (fun cq_1 => ?_) (fun cq_1 => ?_)
      · have hf := ifT cq_1 hf
        have hres := ho2 _ (Option.some.inj hf).symm
        exact hKe2 _ _ _ () hres.symm hG (lv_sub hl [] rfl)
      · have hf := ifF cq_1 hf
        refine lv_aload_n hx hb dX3_hasEntries_8 rfl (lv_at hl 0 rfl) ?_
        refine g_get hK hG B hinX3 0 rfl rfl 2 (by decide) m_16 rfl dX3_hasEntries_9 ?_
        refine lv_bipush (v := 8) hx hb dX3_hasEntries_12 (by decide) ?_
        refine lv_iload_n hx hb dX3_hasEntries_14 rfl (lv_at hl 1 rfl) ?_
        refine lv_imul hx hb dX3_hasEntries_15 ?_
        refine lv_iload_n hx hb dX3_hasEntries_16 rfl (lv_at hl 2 rfl) ?_
        refine lv_iadd hx hb dX3_hasEntries_17 ?_
        obtain ⟨vq_2, hf⟩ := chk_s hf
        refine g_iald hK hG B 3 rfl vq_2 dX3_hasEntries_18 ?_
        refine lv_if_eq (tgt := 24) hx hb dX3_hasEntries_19 (by decide) (fun cq_3 => ?_) (fun cq_3 => ?_)
        · have hf := ifT cq_3 hf
          refine lv_iinc (v := (y2_2 + (1 : Int32))) (lv' := [(2, .int (y2_2 + (1 : Int32))), (0, .ref h0), (1, .int y1_2)]) hx hb dX3_hasEntries_24 hl (k := 2) rfl rfl (by decide) rfl (fun ls hl => ?_)
          refine lv_goto (tgt := 2) hx hb dX3_hasEntries_27 (by decide) ?_
          have hn := hn2 _ (Option.some.inj hf).symm
          exact ih (y2_2 + (1 : Int32)) _ _ _ hG (lv_sub hl [1, 2, 0] rfl) hn
        · have hf := ifF cq_3 hf
          refine lv_iconst (v := 1) hx hb dX3_hasEntries_22 (by decide) ?_
          have hf := hKr2 _ (ho2 _ (Option.some.inj hf).symm).symm
          exact g_iret hr hlk hK hG B rfl hf dX3_hasEntries_23
  unfold f_X3_hasEntries at hf
  refine lv_iconst (v := 0) hx hb dX3_hasEntries_0 (by decide) ?_
  refine lv_istore_n (lv' := [(2, .int (0 : Int32)), (0, .ref h0), (1, .int x1)]) hx hb dX3_hasEntries_1 rfl hl (by decide) rfl (fun ls hl => ?_)
  obtain ⟨zv_4, hizv_4, hf⟩ := ob hf
  refine L2 zv_4 x1 (fun v hres => by subst hres; have hf := se_l hf; exact Option.some.inj hf) (fun H locs ls ev_4 hres hG hl => ?_) 300 (0 : Int32) _ _ _ hG (lv_sub hl [1, 2, 0] rfl) hizv_4
  have hres := hres.symm
  subst hres
  have hf := se_r hf
  refine lv_iconst (v := 0) hx hb dX3_hasEntries_30 (by decide) ?_
  have hf := Option.some.inj hf
  exact g_iret hr hlk hK hG B rfl hf dX3_hasEntries_31
def f_X3_remove (x1 : Int32) (x2 : Int32) (g : RS) : Option (Int32 × RS) := ((f_X3_isInode x1 (1 : Int32) g).bind (fun zv_1 => (if zv_1 = (0 : Int32) then some ((-1 : Int32), g) else (if (f_X3_isName x2) = (0 : Int32) then some ((-1 : Int32), g) else (if (R_down g) = (0 : Int32) then ((f_X3_entry x1 x2 g).bind (fun zv_5 => (if (0 : Int32) ≤ zv_5 then (chk (((8 : Int32) * x1) + zv_5) 96 ((chk ((R_pl g (((8 : Int32) * x1) + zv_5).toNatClampNeg) / (100 : Int32)) 12 ((if (R_kind g ((R_pl g (((8 : Int32) * x1) + zv_5).toNatClampNeg) / (100 : Int32)).toNatClampNeg) = (1 : Int32) then ((f_X3_hasEntries ((R_pl g (((8 : Int32) * x1) + zv_5).toNatClampNeg) / (100 : Int32)) g).bind (fun zv_13 => (if zv_13 = (0 : Int32) then ((f_X3_setPlace x1 zv_5 (0 : Int32) g).bind (fun zv_15 => ((f_X3_setKind ((R_pl g (((8 : Int32) * x1) + zv_5).toNatClampNeg) / (100 : Int32)) (0 : Int32) zv_15).bind (fun zv_16 => (if (R_down zv_16) = (0 : Int32) then some (((R_pl g (((8 : Int32) * x1) + zv_5).toNatClampNeg) / (100 : Int32)), zv_16) else some ((-2 : Int32), zv_16)))))) else some ((-6 : Int32), g)))) else ((f_X3_setPlace x1 zv_5 (0 : Int32) g).bind (fun zv_10 => ((f_X3_setKind ((R_pl g (((8 : Int32) * x1) + zv_5).toNatClampNeg) / (100 : Int32)) (0 : Int32) zv_10).bind (fun zv_11 => (if (R_down zv_11) = (0 : Int32) then some (((R_pl g (((8 : Int32) * x1) + zv_5).toNatClampNeg) / (100 : Int32)), zv_11) else some ((-2 : Int32), zv_11))))))))))) else some ((-3 : Int32), g)))) else some ((-2 : Int32), g))))))
set_option maxHeartbeats 4000000 in
set_option maxRecDepth 100000 in
theorem c_X3_remove (l : Launch) (D : va_G) (cI cJ : ClassId) (h0 qk qs qp qw qr qo qn sz : Nat) (g : RS) (x1 : Int32) (x2 : Int32) (r : Int32) (g1 : RS) (hf : f_X3_remove x1 x2 g = some (r, g1)) : Met l yX3_remove wsX3_remove { frames := 2, cells := 0, slots := 0, locals := 47 } (gPc D (gT cI cJ) sz (wR h0 qk qs qp qw qr qo qn cI cJ g) [.ref h0, .int x1, .int x2]) (gQi D (gT cI cJ) (va_A (wR h0 qk qs qp qw qr qo qn cI cJ g) sz) r (wR h0 qk qs qp qw qr qo qn cI cJ g1)) 0 0 (va_A (wR h0 qk qs qp qw qr qo qn cI cJ g) sz) := by
  refine gMet (cc := cX3_remove) (maxL := 5) (ret := (some .int)) (by decide) rfl ?_ (Nat.le_of_ble_eq_true rfl)
  intro p e0 s m below meth c ls B hr hlk hsz hK hG hl
  have hA : ∀ q : Nat, s.heap.size ≤ q → va_A (wR h0 qk qs qp qw qr qo qn cI cJ g) sz q := fun q h => Or.inr (hsz ▸ h)
  have hx := B.1
  have hb := B.2.1
  have hts := B.2.2.2.2
  have hl : lv_has ls 5 [(0, .ref h0), (1, .int x1), (2, .int x2)] := hl
  generalize va_A (wR h0 qk qs qp qw qr qo qn cI cJ g) sz = A at hA hG ⊢
  have hinX3 : ∀ x ∈ wsX30, x ∈ wsX3_remove := by decide +kernel
  have m_7 : Cond.fieldLink RX3 7 "BlockMoverModel" "kind" "[I" ∈ wsX3_remove := by decide +kernel
  have m_16 : Cond.fieldLink RX3 16 "BlockMoverModel" "places" "[I" ∈ wsX3_remove := by decide +kernel
  have m_36 : Cond.fieldLink RX3 36 "BlockMoverModel" "down" "Z" ∈ wsX3_remove := by decide +kernel
  unfold f_X3_remove at hf
  refine lv_aload_n hx hb dX3_remove_0 rfl (lv_at hl 0 rfl) ?_
  refine lv_iload_n hx hb dX3_remove_1 rfl (lv_at hl 1 rfl) ?_
  refine lv_iconst (v := 1) hx hb dX3_remove_2 (by decide) ?_
  obtain ⟨zv_1, hqzv_1, hf⟩ := ob hf
  refine gc_Vi hA hK hl.1 hG B (c_X3_isInode l D cI cJ h0 qk qs qp qw qr qo qn _ g x1 (1 : Int32) _ hqzv_1) (cwV 2 hts gX3_remove_X3_isInode rfl rfl rfl (by decide +kernel) ⟨by decide, by decide⟩) 0 rfl rfl rfl rfl rfl (Nat.le_of_ble_eq_true rfl) dX3_remove_3 ⟨Nat.zero_le _, Nat.zero_le _⟩ (fun H locs hG => ?_)
  refine lv_if_eq (tgt := 16) hx hb dX3_remove_6 (by decide) (fun cq_2 => ?_) (fun cq_2 => ?_)
  · have hf := ifT cq_2 hf
    refine lv_iconst (v := -1) hx hb dX3_remove_16 (by decide) ?_
    have hf := Option.some.inj hf
    obtain ⟨e1, e2⟩ := Prod.mk.inj hf
    subst e2
    exact g_iret hr hlk hK hG B rfl e1 dX3_remove_17
  · have hf := ifF cq_2 hf
    refine lv_iload_n hx hb dX3_remove_9 rfl (lv_at hl 2 rfl) ?_
    refine gc_Si hA hK hl.1 hG B (c_X3_isName l D (gT cI cJ) _ (wR h0 qk qs qp qw qr qo qn cI cJ g) x2 _ rfl) (va_cwS 1 hts gX3_remove_X3_isName rfl rfl rfl (by decide +kernel) ⟨by decide, by decide⟩) rfl rfl (Nat.le_of_ble_eq_true rfl) dX3_remove_10 ⟨Nat.zero_le _, Nat.zero_le _⟩ (fun H locs hG => ?_)
    refine lv_if_ne (tgt := 18) hx hb dX3_remove_13 (by decide) (fun cq_3 => ?_) (fun cq_3 => ?_)
    · have hf := ifF cq_3 hf
      refine lv_aload_n hx hb dX3_remove_18 rfl (lv_at hl 0 rfl) ?_
      refine g_get hK hG B hinX3 0 rfl rfl 5 (by decide) m_36 rfl dX3_remove_19 ?_
      refine lv_if_eq (tgt := 28) hx hb dX3_remove_22 (by decide) (fun cq_4 => ?_) (fun cq_4 => ?_)
      · have hf := ifT cq_4 hf
        refine lv_aload_n hx hb dX3_remove_28 rfl (lv_at hl 0 rfl) ?_
        refine lv_iload_n hx hb dX3_remove_29 rfl (lv_at hl 1 rfl) ?_
        refine lv_iload_n hx hb dX3_remove_30 rfl (lv_at hl 2 rfl) ?_
        obtain ⟨zv_5, hqzv_5, hf⟩ := ob hf
        refine gc_Vi hA hK hl.1 hG B (c_X3_entry l D cI cJ h0 qk qs qp qw qr qo qn _ g x1 x2 _ hqzv_5) (cwV 2 hts gX3_remove_X3_entry rfl rfl rfl (by decide +kernel) ⟨by decide, by decide⟩) 0 rfl rfl rfl rfl rfl (Nat.le_of_ble_eq_true rfl) dX3_remove_31 ⟨Nat.zero_le _, Nat.zero_le _⟩ (fun H locs hG => ?_)
        refine lv_istore_n (lv' := [(3, .int zv_5), (0, .ref h0), (1, .int x1), (2, .int x2)]) hx hb dX3_remove_34 rfl hl (by decide) rfl (fun ls hl => ?_)
        refine lv_iload_n hx hb dX3_remove_35 rfl (lv_at hl 0 rfl) ?_
        refine lv_if_ge (tgt := 42) hx hb dX3_remove_36 (by decide) (fun cq_6 => ?_) (fun cq_6 => ?_)
        · have hf := ifT cq_6 hf
          refine lv_aload_n hx hb dX3_remove_42 rfl (lv_at hl 1 rfl) ?_
          refine g_get hK hG B hinX3 0 rfl rfl 2 (by decide) m_16 rfl dX3_remove_43 ?_
          refine lv_bipush (v := 8) hx hb dX3_remove_46 (by decide) ?_
          refine lv_iload_n hx hb dX3_remove_48 rfl (lv_at hl 2 rfl) ?_
          refine lv_imul hx hb dX3_remove_49 ?_
          refine lv_iload_n hx hb dX3_remove_50 rfl (lv_at hl 0 rfl) ?_
          refine lv_iadd hx hb dX3_remove_51 ?_
          obtain ⟨vq_7, hf⟩ := chk_s hf
          refine g_iald hK hG B 3 rfl vq_7 dX3_remove_52 ?_
          refine lv_bipush (v := 100) hx hb dX3_remove_53 (by decide) ?_
          refine lv_idiv hx hb dX3_remove_55 (by decide) ?_
          refine lv_istore (lv' := [(4, .int ((R_pl g (((8 : Int32) * x1) + zv_5).toNatClampNeg) / (100 : Int32))), (3, .int zv_5), (0, .ref h0), (1, .int x1), (2, .int x2)]) hx hb dX3_remove_56 hl (by decide) rfl (fun ls hl => ?_)
          refine lv_aload_n hx hb dX3_remove_58 rfl (lv_at hl 2 rfl) ?_
          refine g_get hK hG B hinX3 0 rfl rfl 0 (by decide) m_7 rfl dX3_remove_59 ?_
          refine lv_iload hx hb dX3_remove_62 (lv_at hl 0 rfl) ?_
          obtain ⟨vq_8, hf⟩ := chk_s hf
          refine g_iald hK hG B 1 rfl vq_8 dX3_remove_64 ?_
          refine lv_iconst (v := 1) hx hb dX3_remove_65 (by decide) ?_
          refine lv_icmp_ne (tgt := 81) hx hb dX3_remove_66 (by decide) (fun cq_9 => ?_) (fun cq_9 => ?_)
          · have hf := ifF cq_9 hf
            refine lv_aload_n hx hb dX3_remove_81 rfl (lv_at hl 2 rfl) ?_
            refine lv_iload_n hx hb dX3_remove_82 rfl (lv_at hl 3 rfl) ?_
            refine lv_iload_n hx hb dX3_remove_83 rfl (lv_at hl 1 rfl) ?_
            refine lv_iconst (v := 0) hx hb dX3_remove_84 (by decide) ?_
            obtain ⟨zv_10, hqzv_10, hf⟩ := ob hf
            refine gc_Vv hA hK hl.1 hG B (c_X3_setPlace l D cI cJ h0 qk qs qp qw qr qo qn _ g x1 zv_5 (0 : Int32) _ hqzv_10) (cwV 3 hts gX3_remove_X3_setPlace rfl rfl rfl (by decide +kernel) ⟨by decide, by decide⟩) 0 rfl rfl rfl rfl rfl (Nat.le_of_ble_eq_true rfl) dX3_remove_85 ⟨Nat.zero_le _, Nat.zero_le _⟩ (fun H locs hG => ?_)
            refine lv_aload_n hx hb dX3_remove_88 rfl (lv_at hl 2 rfl) ?_
            refine lv_iload hx hb dX3_remove_89 (lv_at hl 0 rfl) ?_
            refine lv_iconst (v := 0) hx hb dX3_remove_91 (by decide) ?_
            obtain ⟨zv_11, hqzv_11, hf⟩ := ob hf
            refine gc_Vv hA hK hl.1 hG B (c_X3_setKind l D cI cJ h0 qk qs qp qw qr qo qn _ zv_10 ((R_pl g (((8 : Int32) * x1) + zv_5).toNatClampNeg) / (100 : Int32)) (0 : Int32) _ hqzv_11) (cwV 2 hts gX3_remove_X3_setKind rfl rfl rfl (by decide +kernel) ⟨by decide, by decide⟩) 0 rfl rfl rfl rfl rfl (Nat.le_of_ble_eq_true rfl) dX3_remove_92 ⟨Nat.zero_le _, Nat.zero_le _⟩ (fun H locs hG => ?_)
            refine lv_aload_n hx hb dX3_remove_95 rfl (lv_at hl 2 rfl) ?_
            refine g_get hK hG B hinX3 0 rfl rfl 5 (by decide) m_36 rfl dX3_remove_96 ?_
            refine lv_if_eq (tgt := 107) hx hb dX3_remove_99 (by decide) (fun cq_12 => ?_) (fun cq_12 => ?_)
            · have hf := ifT cq_12 hf
              refine lv_iload hx hb dX3_remove_107 (lv_at hl 0 rfl) ?_
              have hf := Option.some.inj hf
              obtain ⟨e1, e2⟩ := Prod.mk.inj hf
              subst e2
              exact g_iret hr hlk hK hG B rfl e1 dX3_remove_109
            · have hf := ifF cq_12 hf
              refine lv_bipush (v := -2) hx hb dX3_remove_102 (by decide) ?_
              refine lv_goto (tgt := 109) hx hb dX3_remove_104 (by decide) ?_
              have hf := Option.some.inj hf
              obtain ⟨e1, e2⟩ := Prod.mk.inj hf
              subst e2
              exact g_iret hr hlk hK hG B rfl e1 dX3_remove_109
          · have hf := ifT cq_9 hf
            refine lv_aload_n hx hb dX3_remove_69 rfl (lv_at hl 2 rfl) ?_
            refine lv_iload hx hb dX3_remove_70 (lv_at hl 0 rfl) ?_
            obtain ⟨zv_13, hqzv_13, hf⟩ := ob hf
            refine gc_Vi hA hK hl.1 hG B (c_X3_hasEntries l D cI cJ h0 qk qs qp qw qr qo qn _ g ((R_pl g (((8 : Int32) * x1) + zv_5).toNatClampNeg) / (100 : Int32)) _ hqzv_13) (cwV 1 hts gX3_remove_X3_hasEntries rfl rfl rfl (by decide +kernel) ⟨by decide, by decide⟩) 0 rfl rfl rfl rfl rfl (Nat.le_of_ble_eq_true rfl) dX3_remove_72 ⟨Nat.zero_le _, Nat.zero_le _⟩ (fun H locs hG => ?_)
            refine lv_if_eq (tgt := 81) hx hb dX3_remove_75 (by decide) (fun cq_14 => ?_) (fun cq_14 => ?_)
            · have hf := ifT cq_14 hf
              refine lv_aload_n hx hb dX3_remove_81 rfl (lv_at hl 2 rfl) ?_
              refine lv_iload_n hx hb dX3_remove_82 rfl (lv_at hl 3 rfl) ?_
              refine lv_iload_n hx hb dX3_remove_83 rfl (lv_at hl 1 rfl) ?_
              refine lv_iconst (v := 0) hx hb dX3_remove_84 (by decide) ?_
              obtain ⟨zv_15, hqzv_15, hf⟩ := ob hf
              refine gc_Vv hA hK hl.1 hG B (c_X3_setPlace l D cI cJ h0 qk qs qp qw qr qo qn _ g x1 zv_5 (0 : Int32) _ hqzv_15) (cwV 3 hts gX3_remove_X3_setPlace rfl rfl rfl (by decide +kernel) ⟨by decide, by decide⟩) 0 rfl rfl rfl rfl rfl (Nat.le_of_ble_eq_true rfl) dX3_remove_85 ⟨Nat.zero_le _, Nat.zero_le _⟩ (fun H locs hG => ?_)
              refine lv_aload_n hx hb dX3_remove_88 rfl (lv_at hl 2 rfl) ?_
              refine lv_iload hx hb dX3_remove_89 (lv_at hl 0 rfl) ?_
              refine lv_iconst (v := 0) hx hb dX3_remove_91 (by decide) ?_
              obtain ⟨zv_16, hqzv_16, hf⟩ := ob hf
              refine gc_Vv hA hK hl.1 hG B (c_X3_setKind l D cI cJ h0 qk qs qp qw qr qo qn _ zv_15 ((R_pl g (((8 : Int32) * x1) + zv_5).toNatClampNeg) / (100 : Int32)) (0 : Int32) _ hqzv_16) (cwV 2 hts gX3_remove_X3_setKind rfl rfl rfl (by decide +kernel) ⟨by decide, by decide⟩) 0 rfl rfl rfl rfl rfl (Nat.le_of_ble_eq_true rfl) dX3_remove_92 ⟨Nat.zero_le _, Nat.zero_le _⟩ (fun H locs hG => ?_)
              refine lv_aload_n hx hb dX3_remove_95 rfl (lv_at hl 2 rfl) ?_
              refine g_get hK hG B hinX3 0 rfl rfl 5 (by decide) m_36 rfl dX3_remove_96 ?_
              refine lv_if_eq (tgt := 107) hx hb dX3_remove_99 (by decide) (fun cq_17 => ?_) (fun cq_17 => ?_)
              · have hf := ifT cq_17 hf
                refine lv_iload hx hb dX3_remove_107 (lv_at hl 0 rfl) ?_
                have hf := Option.some.inj hf
                obtain ⟨e1, e2⟩ := Prod.mk.inj hf
                subst e2
                exact g_iret hr hlk hK hG B rfl e1 dX3_remove_109
              · have hf := ifF cq_17 hf
                refine lv_bipush (v := -2) hx hb dX3_remove_102 (by decide) ?_
                refine lv_goto (tgt := 109) hx hb dX3_remove_104 (by decide) ?_
                have hf := Option.some.inj hf
                obtain ⟨e1, e2⟩ := Prod.mk.inj hf
                subst e2
                exact g_iret hr hlk hK hG B rfl e1 dX3_remove_109
            · have hf := ifF cq_14 hf
              refine lv_bipush (v := -6) hx hb dX3_remove_78 (by decide) ?_
              have hf := Option.some.inj hf
              obtain ⟨e1, e2⟩ := Prod.mk.inj hf
              subst e2
              exact g_iret hr hlk hK hG B rfl e1 dX3_remove_80
        · have hf := ifF cq_6 hf
          refine lv_bipush (v := -3) hx hb dX3_remove_39 (by decide) ?_
          have hf := Option.some.inj hf
          obtain ⟨e1, e2⟩ := Prod.mk.inj hf
          subst e2
          exact g_iret hr hlk hK hG B rfl e1 dX3_remove_41
      · have hf := ifF cq_4 hf
        refine lv_bipush (v := -2) hx hb dX3_remove_25 (by decide) ?_
        have hf := Option.some.inj hf
        obtain ⟨e1, e2⟩ := Prod.mk.inj hf
        subst e2
        exact g_iret hr hlk hK hG B rfl e1 dX3_remove_27
    · have hf := ifT cq_3 hf
      refine lv_iconst (v := -1) hx hb dX3_remove_16 (by decide) ?_
      have hf := Option.some.inj hf
      obtain ⟨e1, e2⟩ := Prod.mk.inj hf
      subst e2
      exact g_iret hr hlk hK hG B rfl e1 dX3_remove_17
def b_X3_isWithin_28 (y1_28 : Int32) (y5_28 : Int32) (y6_28 : Int32) (g : RS) (y3_28 : Int32) (y7_28 : Int32) : Option ((Int32) ⊕ (Int32 × Int32)) := (if (8 : Int32) ≤ y7_28 then some (.inl y3_28) else (chk y6_28 12 ((if (R_kind g y6_28.toNatClampNeg) = (1 : Int32) then (if ((y3_28 >>> (y6_28 &&& 31)) &&& (1 : Int32)) = (1 : Int32) then (chk (((8 : Int32) * y6_28) + y7_28) 96 ((if (R_pl g (((8 : Int32) * y6_28) + y7_28).toNatClampNeg) ≤ (0 : Int32) then some (.inr ((y3_28 ||| (0 : Int32)), (y7_28 + (1 : Int32)))) else (chk (((8 : Int32) * y6_28) + y7_28) 96 (some (.inr ((y3_28 ||| ((1 : Int32) <<< (((R_pl g (((8 : Int32) * y6_28) + y7_28).toNatClampNeg) / (100 : Int32)) &&& 31))), (y7_28 + (1 : Int32))))))))) else some (.inl y3_28)) else some (.inl y3_28)))))
def b_X3_isWithin_18 (y1_18 : Int32) (y5_18 : Int32) (g : RS) (y3_18 : Int32) (y6_18 : Int32) : Option ((Int32) ⊕ (Int32 × Int32)) := (if (12 : Int32) ≤ y6_18 then some (.inl y3_18) else ((itl (fun a : Int32 × Int32 => b_X3_isWithin_28 y1_18 y5_18 y6_18 g a.1 a.2) 300 (y3_18, (0 : Int32))).bind (fun ev_10 => some (.inr (ev_10, (y6_18 + (1 : Int32)))))))
def b_X3_isWithin_7 (y1_7 : Int32) (g : RS) (y3_7 : Int32) (y4_7 : Int32) : Option ((Int32) ⊕ (Int32 × Int32)) := (if y4_7 = (0 : Int32) then some (.inl y3_7) else ((itl (fun a : Int32 × Int32 => b_X3_isWithin_18 y1_7 y3_7 g a.1 a.2) 300 (y3_7, (0 : Int32))).bind (fun ev_11 => (if ev_11 = y3_7 then some (.inr (ev_11, (0 : Int32))) else some (.inr (ev_11, (1 : Int32)))))))
def f_X3_isWithin (x1 : Int32) (x2 : Int32) (g : RS) : Option Int32 := ((itl (fun a : Int32 × Int32 => b_X3_isWithin_7 x1 g a.1 a.2) 300 (((1 : Int32) <<< (x2 &&& 31)), (1 : Int32))).bind (fun ev_13 => (if ((ev_13 >>> (x1 &&& 31)) &&& (1 : Int32)) = (1 : Int32) then some (1 : Int32) else some (0 : Int32))))
set_option maxHeartbeats 4000000 in
set_option maxRecDepth 100000 in
theorem c_X3_isWithin (l : Launch) (D : va_G) (cI cJ : ClassId) (h0 qk qs qp qw qr qo qn sz : Nat) (g : RS) (x1 : Int32) (x2 : Int32) (r : Int32) (hf : f_X3_isWithin x1 x2 g = some r) : Met l yX3_isWithin wsX3_isWithin { frames := 0, cells := 0, slots := 0, locals := 0 } (gPc D (gT cI cJ) sz (wR h0 qk qs qp qw qr qo qn cI cJ g) [.ref h0, .int x1, .int x2]) (gQi D (gT cI cJ) (va_A (wR h0 qk qs qp qw qr qo qn cI cJ g) sz) r (wR h0 qk qs qp qw qr qo qn cI cJ g)) 0 0 (va_A (wR h0 qk qs qp qw qr qo qn cI cJ g) sz) := by
  refine gMet (cc := cX3_isWithin) (maxL := 8) (ret := (some .boolean)) (by decide) rfl ?_ (Nat.le_of_ble_eq_true rfl)
  intro p e0 s m below meth c ls B hr hlk hsz hK hG hl
  have hA : ∀ q : Nat, s.heap.size ≤ q → va_A (wR h0 qk qs qp qw qr qo qn cI cJ g) sz q := fun q h => Or.inr (hsz ▸ h)
  have hx := B.1
  have hb := B.2.1
  have hts := B.2.2.2.2
  have hl : lv_has ls 8 [(0, .ref h0), (1, .int x1), (2, .int x2)] := hl
  generalize va_A (wR h0 qk qs qp qw qr qo qn cI cJ g) sz = A at hA hG ⊢
  have hinX3 : ∀ x ∈ wsX30, x ∈ wsX3_isWithin := by decide +kernel
  have m_7 : Cond.fieldLink RX3 7 "BlockMoverModel" "kind" "[I" ∈ wsX3_isWithin := by decide +kernel
  have m_16 : Cond.fieldLink RX3 16 "BlockMoverModel" "places" "[I" ∈ wsX3_isWithin := by decide +kernel
  have L28 : ∀ (res : (Int32)) (y1_28 : Int32) (y5_28 : Int32) (y6_28 : Int32), (∀ (H1 : Heap) (locs1 : List Loc) (ls1 : Array Slot) (e : Int32), res = e → gG D A s.heap (wR h0 qk qs qp qw qr qo qn cI cJ g) H1 locs1 → lv_has ls1 8 [(0, .ref h0), (1, .int y1_28), (3, .int e), (5, .int y5_28), (6, .int y6_28)] → W p l e0 { frames := 0, cells := 0, slots := 0, locals := 0 } s m ([.ref h0, .int x1, .int x2] : List Value).toArray below meth c H1 locs1 0 0 (MQ below (gQi D (gT cI cJ) A r (wR h0 qk qs qp qw qr qo qn cI cJ g)) ([.ref h0, .int x1, .int x2] : List Value).toArray s 0 0 A) (F0 m 103 ls1 [])) → ∀ (n : Nat) (y3_28 : Int32) (y7_28 : Int32) (H : Heap) (locs : List Loc) (ls : Array Slot), gG D A s.heap (wR h0 qk qs qp qw qr qo qn cI cJ g) H locs → lv_has ls 8 [(0, .ref h0), (1, .int y1_28), (3, .int y3_28), (5, .int y5_28), (6, .int y6_28), (7, .int y7_28)] → itl (fun a : Int32 × Int32 => b_X3_isWithin_28 y1_28 y5_28 y6_28 g a.1 a.2) n (y3_28, y7_28) = some res → W p l e0 { frames := 0, cells := 0, slots := 0, locals := 0 } s m ([.ref h0, .int x1, .int x2] : List Value).toArray below meth c H locs 0 0 (MQ below (gQi D (gT cI cJ) A r (wR h0 qk qs qp qw qr qo qn cI cJ g)) ([.ref h0, .int x1, .int x2] : List Value).toArray s 0 0 A) (F0 m 28 ls []) := by
    intro res y1_28 y5_28 y6_28 hKe28 n
    induction n with
    | zero => exact fun y3_28 y7_28 H locs ls hG hl hf => (itl_0 hf).elim
    | succ n ih =>
      intro y3_28 y7_28 H locs ls hG hl hf
      obtain ⟨o, hf, ho28, hn28⟩ := itl_s hf
      have hf : b_X3_isWithin_28 y1_28 y5_28 y6_28 g y3_28 y7_28 = some o := hf
      unfold b_X3_isWithin_28 at hf
      refine lv_iload hx hb dX3_isWithin_28 (lv_at hl 5 rfl) ?_
      refine lv_bipush (v := 8) hx hb dX3_isWithin_30 (by decide) ?_
      refine lv_icmp_ge (tgt := 103) hx hb dX3_isWithin_32 (by decide) (fun cq_3 => ?_) (fun cq_3 => ?_)
      · have hf := ifT cq_3 hf
        have hres := ho28 _ (Option.some.inj hf).symm
        exact hKe28 _ _ _ y3_28 hres.symm hG (lv_sub hl [0, 1, 2, 3, 4] rfl)
      · have hf := ifF cq_3 hf
        refine lv_aload_n hx hb dX3_isWithin_35 rfl (lv_at hl 0 rfl) ?_
        refine g_get hK hG B hinX3 0 rfl rfl 0 (by decide) m_7 rfl dX3_isWithin_36 ?_
        refine lv_iload hx hb dX3_isWithin_39 (lv_at hl 4 rfl) ?_
        obtain ⟨vq_4, hf⟩ := chk_s hf
        refine g_iald hK hG B 1 rfl vq_4 dX3_isWithin_41 ?_
        refine lv_iconst (v := 1) hx hb dX3_isWithin_42 (by decide) ?_
        refine lv_icmp_ne (tgt := 103) hx hb dX3_isWithin_43 (by decide) (fun cq_5 => ?_) (fun cq_5 => ?_)
        · have hf := ifF cq_5 hf
          have hres := ho28 _ (Option.some.inj hf).symm
          exact hKe28 _ _ _ y3_28 hres.symm hG (lv_sub hl [0, 1, 2, 3, 4] rfl)
        · have hf := ifT cq_5 hf
          refine lv_iload_n hx hb dX3_isWithin_46 rfl (lv_at hl 2 rfl) ?_
          refine lv_iload hx hb dX3_isWithin_47 (lv_at hl 4 rfl) ?_
          refine lv_ishr hx hb dX3_isWithin_49 ?_
          refine lv_iconst (v := 1) hx hb dX3_isWithin_50 (by decide) ?_
          refine lv_iand hx hb dX3_isWithin_51 ?_
          refine lv_iconst (v := 1) hx hb dX3_isWithin_52 (by decide) ?_
          refine lv_icmp_ne (tgt := 103) hx hb dX3_isWithin_53 (by decide) (fun cq_6 => ?_) (fun cq_6 => ?_)
          · have hf := ifF cq_6 hf
            have hres := ho28 _ (Option.some.inj hf).symm
            exact hKe28 _ _ _ y3_28 hres.symm hG (lv_sub hl [0, 1, 2, 3, 4] rfl)
          · have hf := ifT cq_6 hf
            refine lv_iload_n hx hb dX3_isWithin_56 rfl (lv_at hl 2 rfl) ?_
            refine lv_aload_n hx hb dX3_isWithin_57 rfl (lv_at hl 0 rfl) ?_
            refine g_get hK hG B hinX3 0 rfl rfl 2 (by decide) m_16 rfl dX3_isWithin_58 ?_
            refine lv_bipush (v := 8) hx hb dX3_isWithin_61 (by decide) ?_
            refine lv_iload hx hb dX3_isWithin_63 (lv_at hl 4 rfl) ?_
            refine lv_imul hx hb dX3_isWithin_65 ?_
            refine lv_iload hx hb dX3_isWithin_66 (lv_at hl 5 rfl) ?_
            refine lv_iadd hx hb dX3_isWithin_68 ?_
            obtain ⟨vq_7, hf⟩ := chk_s hf
            refine g_iald hK hG B 3 rfl vq_7 dX3_isWithin_69 ?_
            refine lv_if_le (tgt := 94) hx hb dX3_isWithin_70 (by decide) (fun cq_8 => ?_) (fun cq_8 => ?_)
            · have hf := ifT cq_8 hf
              refine lv_iconst (v := 0) hx hb dX3_isWithin_94 (by decide) ?_
              refine lv_ior hx hb dX3_isWithin_95 ?_
              refine lv_istore_n (lv' := [(3, .int (y3_28 ||| (0 : Int32))), (0, .ref h0), (1, .int y1_28), (5, .int y5_28), (6, .int y6_28), (7, .int y7_28)]) hx hb dX3_isWithin_96 rfl hl (by decide) rfl (fun ls hl => ?_)
              refine lv_iinc (v := (y7_28 + (1 : Int32))) (lv' := [(7, .int (y7_28 + (1 : Int32))), (3, .int (y3_28 ||| (0 : Int32))), (0, .ref h0), (1, .int y1_28), (5, .int y5_28), (6, .int y6_28)]) hx hb dX3_isWithin_97 hl (k := 5) rfl rfl (by decide) rfl (fun ls hl => ?_)
              refine lv_goto (tgt := 28) hx hb dX3_isWithin_100 (by decide) ?_
              have hn := hn28 _ (Option.some.inj hf).symm
              exact ih (y3_28 ||| (0 : Int32)) (y7_28 + (1 : Int32)) _ _ _ hG (lv_sub hl [2, 3, 1, 4, 5, 0] rfl) hn
            · have hf := ifF cq_8 hf
              refine lv_iconst (v := 1) hx hb dX3_isWithin_73 (by decide) ?_
              refine lv_aload_n hx hb dX3_isWithin_74 rfl (lv_at hl 0 rfl) ?_
              refine g_get hK hG B hinX3 0 rfl rfl 2 (by decide) m_16 rfl dX3_isWithin_75 ?_
              refine lv_bipush (v := 8) hx hb dX3_isWithin_78 (by decide) ?_
              refine lv_iload hx hb dX3_isWithin_80 (lv_at hl 4 rfl) ?_
              refine lv_imul hx hb dX3_isWithin_82 ?_
              refine lv_iload hx hb dX3_isWithin_83 (lv_at hl 5 rfl) ?_
              refine lv_iadd hx hb dX3_isWithin_85 ?_
              obtain ⟨vq_9, hf⟩ := chk_s hf
              refine g_iald hK hG B 3 rfl vq_9 dX3_isWithin_86 ?_
              refine lv_bipush (v := 100) hx hb dX3_isWithin_87 (by decide) ?_
              refine lv_idiv hx hb dX3_isWithin_89 (by decide) ?_
              refine lv_ishl hx hb dX3_isWithin_90 ?_
              refine lv_goto (tgt := 95) hx hb dX3_isWithin_91 (by decide) ?_
              refine lv_ior hx hb dX3_isWithin_95 ?_
              refine lv_istore_n (lv' := [(3, .int (y3_28 ||| ((1 : Int32) <<< (((R_pl g (((8 : Int32) * y6_28) + y7_28).toNatClampNeg) / (100 : Int32)) &&& 31)))), (0, .ref h0), (1, .int y1_28), (5, .int y5_28), (6, .int y6_28), (7, .int y7_28)]) hx hb dX3_isWithin_96 rfl hl (by decide) rfl (fun ls hl => ?_)
              refine lv_iinc (v := (y7_28 + (1 : Int32))) (lv' := [(7, .int (y7_28 + (1 : Int32))), (3, .int (y3_28 ||| ((1 : Int32) <<< (((R_pl g (((8 : Int32) * y6_28) + y7_28).toNatClampNeg) / (100 : Int32)) &&& 31)))), (0, .ref h0), (1, .int y1_28), (5, .int y5_28), (6, .int y6_28)]) hx hb dX3_isWithin_97 hl (k := 5) rfl rfl (by decide) rfl (fun ls hl => ?_)
              refine lv_goto (tgt := 28) hx hb dX3_isWithin_100 (by decide) ?_
              have hn := hn28 _ (Option.some.inj hf).symm
              exact ih (y3_28 ||| ((1 : Int32) <<< (((R_pl g (((8 : Int32) * y6_28) + y7_28).toNatClampNeg) / (100 : Int32)) &&& 31))) (y7_28 + (1 : Int32)) _ _ _ hG (lv_sub hl [2, 3, 1, 4, 5, 0] rfl) hn
  have L18 : ∀ (res : (Int32)) (y1_18 : Int32) (y5_18 : Int32), (∀ (H1 : Heap) (locs1 : List Loc) (ls1 : Array Slot) (e : Int32), res = e → gG D A s.heap (wR h0 qk qs qp qw qr qo qn cI cJ g) H1 locs1 → lv_has ls1 8 [(0, .ref h0), (1, .int y1_18), (3, .int e), (5, .int y5_18)] → W p l e0 { frames := 0, cells := 0, slots := 0, locals := 0 } s m ([.ref h0, .int x1, .int x2] : List Value).toArray below meth c H1 locs1 0 0 (MQ below (gQi D (gT cI cJ) A r (wR h0 qk qs qp qw qr qo qn cI cJ g)) ([.ref h0, .int x1, .int x2] : List Value).toArray s 0 0 A) (F0 m 109 ls1 [])) → ∀ (n : Nat) (y3_18 : Int32) (y6_18 : Int32) (H : Heap) (locs : List Loc) (ls : Array Slot), gG D A s.heap (wR h0 qk qs qp qw qr qo qn cI cJ g) H locs → lv_has ls 8 [(0, .ref h0), (1, .int y1_18), (3, .int y3_18), (5, .int y5_18), (6, .int y6_18)] → itl (fun a : Int32 × Int32 => b_X3_isWithin_18 y1_18 y5_18 g a.1 a.2) n (y3_18, y6_18) = some res → W p l e0 { frames := 0, cells := 0, slots := 0, locals := 0 } s m ([.ref h0, .int x1, .int x2] : List Value).toArray below meth c H locs 0 0 (MQ below (gQi D (gT cI cJ) A r (wR h0 qk qs qp qw qr qo qn cI cJ g)) ([.ref h0, .int x1, .int x2] : List Value).toArray s 0 0 A) (F0 m 18 ls []) := by
    intro res y1_18 y5_18 hKe18 n
    induction n with
    | zero => exact fun y3_18 y6_18 H locs ls hG hl hf => (itl_0 hf).elim
    | succ n ih =>
      intro y3_18 y6_18 H locs ls hG hl hf
      obtain ⟨o, hf, ho18, hn18⟩ := itl_s hf
      have hf : b_X3_isWithin_18 y1_18 y5_18 g y3_18 y6_18 = some o := hf
      unfold b_X3_isWithin_18 at hf
      refine lv_iload hx hb dX3_isWithin_18 (lv_at hl 4 rfl) ?_
      refine lv_bipush (v := 12) hx hb dX3_isWithin_20 (by decide) ?_
      refine lv_icmp_ge (tgt := 109) hx hb dX3_isWithin_22 (by decide) (fun cq_2 => ?_) (fun cq_2 => ?_)
      · have hf := ifT cq_2 hf
        have hres := ho18 _ (Option.some.inj hf).symm
        exact hKe18 _ _ _ y3_18 hres.symm hG (lv_sub hl [0, 1, 2, 3] rfl)
      · have hf := ifF cq_2 hf
        refine lv_iconst (v := 0) hx hb dX3_isWithin_25 (by decide) ?_
        refine lv_istore (lv' := [(7, .int (0 : Int32)), (0, .ref h0), (1, .int y1_18), (3, .int y3_18), (5, .int y5_18), (6, .int y6_18)]) hx hb dX3_isWithin_26 hl (by decide) rfl (fun ls hl => ?_)
        obtain ⟨zv_10, hizv_10, hf⟩ := ob hf
        refine L28 zv_10 y1_18 y5_18 y6_18 (fun H locs ls ev_10 hres hG hl => ?_) 300 y3_18 (0 : Int32) _ _ _ hG (lv_sub hl [1, 2, 3, 4, 5, 0] rfl) hizv_10
        have hres := hres.symm
        subst hres
        refine lv_iinc (v := (y6_18 + (1 : Int32))) (lv' := [(6, .int (y6_18 + (1 : Int32))), (0, .ref h0), (1, .int y1_18), (3, .int ev_10), (5, .int y5_18)]) hx hb dX3_isWithin_103 hl (k := 4) rfl rfl (by decide) rfl (fun ls hl => ?_)
        refine lv_goto (tgt := 18) hx hb dX3_isWithin_106 (by decide) ?_
        have hn := hn18 _ (Option.some.inj hf).symm
        exact ih ev_10 (y6_18 + (1 : Int32)) _ _ _ hG (lv_sub hl [1, 2, 3, 4, 0] rfl) hn
  have L7 : ∀ (res : (Int32)) (y1_7 : Int32), (∀ (H1 : Heap) (locs1 : List Loc) (ls1 : Array Slot) (e : Int32), res = e → gG D A s.heap (wR h0 qk qs qp qw qr qo qn cI cJ g) H1 locs1 → lv_has ls1 8 [(1, .int y1_7), (3, .int e)] → W p l e0 { frames := 0, cells := 0, slots := 0, locals := 0 } s m ([.ref h0, .int x1, .int x2] : List Value).toArray below meth c H1 locs1 0 0 (MQ below (gQi D (gT cI cJ) A r (wR h0 qk qs qp qw qr qo qn cI cJ g)) ([.ref h0, .int x1, .int x2] : List Value).toArray s 0 0 A) (F0 m 125 ls1 [])) → ∀ (n : Nat) (y3_7 : Int32) (y4_7 : Int32) (H : Heap) (locs : List Loc) (ls : Array Slot), gG D A s.heap (wR h0 qk qs qp qw qr qo qn cI cJ g) H locs → lv_has ls 8 [(0, .ref h0), (1, .int y1_7), (3, .int y3_7), (4, .int y4_7)] → itl (fun a : Int32 × Int32 => b_X3_isWithin_7 y1_7 g a.1 a.2) n (y3_7, y4_7) = some res → W p l e0 { frames := 0, cells := 0, slots := 0, locals := 0 } s m ([.ref h0, .int x1, .int x2] : List Value).toArray below meth c H locs 0 0 (MQ below (gQi D (gT cI cJ) A r (wR h0 qk qs qp qw qr qo qn cI cJ g)) ([.ref h0, .int x1, .int x2] : List Value).toArray s 0 0 A) (F0 m 7 ls []) := by
    intro res y1_7 hKe7 n
    induction n with
    | zero => exact fun y3_7 y4_7 H locs ls hG hl hf => (itl_0 hf).elim
    | succ n ih =>
      intro y3_7 y4_7 H locs ls hG hl hf
      obtain ⟨o, hf, ho7, hn7⟩ := itl_s hf
      have hf : b_X3_isWithin_7 y1_7 g y3_7 y4_7 = some o := hf
      unfold b_X3_isWithin_7 at hf
      refine lv_iload hx hb dX3_isWithin_7 (lv_at hl 3 rfl) ?_
      refine lv_if_eq (tgt := 125) hx hb dX3_isWithin_9 (by decide) (fun cq_1 => ?_) (fun cq_1 => ?_)
      · have hf := ifT cq_1 hf
        have hres := ho7 _ (Option.some.inj hf).symm
        exact hKe7 _ _ _ y3_7 hres.symm hG (lv_sub hl [1, 2] rfl)
      · have hf := ifF cq_1 hf
        refine lv_iload_n hx hb dX3_isWithin_12 rfl (lv_at hl 2 rfl) ?_
        refine lv_istore (lv' := [(5, .int y3_7), (0, .ref h0), (1, .int y1_7), (3, .int y3_7), (4, .int y4_7)]) hx hb dX3_isWithin_13 hl (by decide) rfl (fun ls hl => ?_)
        refine lv_iconst (v := 0) hx hb dX3_isWithin_15 (by decide) ?_
        refine lv_istore (lv' := [(6, .int (0 : Int32)), (5, .int y3_7), (0, .ref h0), (1, .int y1_7), (3, .int y3_7), (4, .int y4_7)]) hx hb dX3_isWithin_16 hl (by decide) rfl (fun ls hl => ?_)
        obtain ⟨zv_11, hizv_11, hf⟩ := ob hf
        refine L18 zv_11 y1_7 y3_7 (fun H locs ls ev_11 hres hG hl => ?_) 300 y3_7 (0 : Int32) _ _ _ hG (lv_sub hl [2, 3, 4, 1, 0] rfl) hizv_11
        have hres := hres.symm
        subst hres
        refine lv_iload_n hx hb dX3_isWithin_109 rfl (lv_at hl 2 rfl) ?_
        refine lv_iload hx hb dX3_isWithin_110 (lv_at hl 3 rfl) ?_
        refine lv_icmp_eq (tgt := 119) hx hb dX3_isWithin_112 (by decide) (fun cq_12 => ?_) (fun cq_12 => ?_)
        · have hf := ifT cq_12 hf
          refine lv_iconst (v := 0) hx hb dX3_isWithin_119 (by decide) ?_
          refine lv_istore (lv' := [(4, .int (0 : Int32)), (0, .ref h0), (1, .int y1_7), (3, .int ev_11), (5, .int y3_7)]) hx hb dX3_isWithin_120 hl (by decide) rfl (fun ls hl => ?_)
          refine lv_goto (tgt := 7) hx hb dX3_isWithin_122 (by decide) ?_
          have hn := hn7 _ (Option.some.inj hf).symm
          exact ih ev_11 (0 : Int32) _ _ _ hG (lv_sub hl [1, 2, 3, 0] rfl) hn
        · have hf := ifF cq_12 hf
          refine lv_iconst (v := 1) hx hb dX3_isWithin_115 (by decide) ?_
          refine lv_goto (tgt := 120) hx hb dX3_isWithin_116 (by decide) ?_
          refine lv_istore (lv' := [(4, .int (1 : Int32)), (0, .ref h0), (1, .int y1_7), (3, .int ev_11), (5, .int y3_7)]) hx hb dX3_isWithin_120 hl (by decide) rfl (fun ls hl => ?_)
          refine lv_goto (tgt := 7) hx hb dX3_isWithin_122 (by decide) ?_
          have hn := hn7 _ (Option.some.inj hf).symm
          exact ih ev_11 (1 : Int32) _ _ _ hG (lv_sub hl [1, 2, 3, 0] rfl) hn
  unfold f_X3_isWithin at hf
  refine lv_iconst (v := 1) hx hb dX3_isWithin_0 (by decide) ?_
  refine lv_iload_n hx hb dX3_isWithin_1 rfl (lv_at hl 2 rfl) ?_
  refine lv_ishl hx hb dX3_isWithin_2 ?_
  refine lv_istore_n (lv' := [(3, .int ((1 : Int32) <<< (x2 &&& 31))), (0, .ref h0), (1, .int x1), (2, .int x2)]) hx hb dX3_isWithin_3 rfl hl (by decide) rfl (fun ls hl => ?_)
  refine lv_iconst (v := 1) hx hb dX3_isWithin_4 (by decide) ?_
  refine lv_istore (lv' := [(4, .int (1 : Int32)), (3, .int ((1 : Int32) <<< (x2 &&& 31))), (0, .ref h0), (1, .int x1), (2, .int x2)]) hx hb dX3_isWithin_5 hl (by decide) rfl (fun ls hl => ?_)
  obtain ⟨zv_13, hizv_13, hf⟩ := ob hf
  refine L7 zv_13 x1 (fun H locs ls ev_13 hres hG hl => ?_) 300 ((1 : Int32) <<< (x2 &&& 31)) (1 : Int32) _ _ _ hG (lv_sub hl [2, 3, 1, 0] rfl) hizv_13
  have hres := hres.symm
  subst hres
  refine lv_iload_n hx hb dX3_isWithin_125 rfl (lv_at hl 1 rfl) ?_
  refine lv_iload_n hx hb dX3_isWithin_126 rfl (lv_at hl 0 rfl) ?_
  refine lv_ishr hx hb dX3_isWithin_127 ?_
  refine lv_iconst (v := 1) hx hb dX3_isWithin_128 (by decide) ?_
  refine lv_iand hx hb dX3_isWithin_129 ?_
  refine lv_iconst (v := 1) hx hb dX3_isWithin_130 (by decide) ?_
  refine lv_icmp_ne (tgt := 138) hx hb dX3_isWithin_131 (by decide) (fun cq_14 => ?_) (fun cq_14 => ?_)
  · have hf := ifF cq_14 hf
    refine lv_iconst (v := 0) hx hb dX3_isWithin_138 (by decide) ?_
    have hf := Option.some.inj hf
    exact g_iret hr hlk hK hG B rfl hf dX3_isWithin_139
  · have hf := ifT cq_14 hf
    refine lv_iconst (v := 1) hx hb dX3_isWithin_134 (by decide) ?_
    refine lv_goto (tgt := 139) hx hb dX3_isWithin_135 (by decide) ?_
    have hf := Option.some.inj hf
    exact g_iret hr hlk hK hG B rfl hf dX3_isWithin_139
