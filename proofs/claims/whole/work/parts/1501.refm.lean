def b_X3_isUsed_10 (y1_10 : Int32) (y2_10 : Int32) (g : RS) (y3_10 : Int32) : Option (((Int32) ⊕ (Unit)) ⊕ (Int32)) := (chk y2_10 12 ((if (R_kind g y2_10.toNatClampNeg) = (2 : Int32) then (chk y2_10 12 ((if (R_size g y2_10.toNatClampNeg) ≤ y3_10 then some (.inl (.inr ())) else (chk (((8 : Int32) * y2_10) + y3_10) 96 ((if (R_pl g (((8 : Int32) * y2_10) + y3_10).toNatClampNeg) = y1_10 then some (.inl (.inl (1 : Int32))) else some (.inr (y3_10 + (1 : Int32))))))))) else some (.inl (.inr ())))))
def b_X3_isUsed_2 (y1_2 : Int32) (g : RS) (y2_2 : Int32) : Option (((Int32) ⊕ (Unit)) ⊕ (Int32)) := (if (12 : Int32) ≤ y2_2 then some (.inl (.inr ())) else ((itl (fun a : Int32 => b_X3_isUsed_10 y1_2 y2_2 g a) 300 (0 : Int32)).bind (fun zv_8 => Sum.elim (fun v => some (.inl (.inl v))) (fun ev_8 => some (.inr (y2_2 + (1 : Int32)))) zv_8)))
def f_X3_isUsed (x1 : Int32) (g : RS) : Option Int32 := ((itl (fun a : Int32 => b_X3_isUsed_2 x1 g a) 300 (0 : Int32)).bind (fun zv_9 => Sum.elim (fun v => some v) (fun ev_9 => some (0 : Int32)) zv_9))
set_option maxHeartbeats 4000000 in
set_option maxRecDepth 100000 in
theorem c_X3_isUsed (l : Launch) (D : va_G) (cI cJ : ClassId) (h0 qk qs qp qw qr qo qn sz : Nat) (g : RS) (x1 : Int32) (r : Int32) (hf : f_X3_isUsed x1 g = some r) : Met l yX3_isUsed wsX3_isUsed { frames := 0, cells := 0, slots := 0, locals := 0 } (gPc D (gT cI cJ) sz (wR h0 qk qs qp qw qr qo qn cI cJ g) [.ref h0, .int x1]) (gQi D (gT cI cJ) (va_A (wR h0 qk qs qp qw qr qo qn cI cJ g) sz) r (wR h0 qk qs qp qw qr qo qn cI cJ g)) 0 0 (va_A (wR h0 qk qs qp qw qr qo qn cI cJ g) sz) := by
  refine gMet (cc := cX3_isUsed) (maxL := 4) (ret := (some .boolean)) (by decide) rfl ?_ (Nat.le_of_ble_eq_true rfl)
  intro p e0 s m below meth c ls B hr hlk hsz hK hG hl
  have hA : ∀ q : Nat, s.heap.size ≤ q → va_A (wR h0 qk qs qp qw qr qo qn cI cJ g) sz q := fun q h => Or.inr (hsz ▸ h)
  have hx := B.1
  have hb := B.2.1
  have hts := B.2.2.2.2
  have hl : lv_has ls 4 [(0, .ref h0), (1, .int x1)] := hl
  generalize va_A (wR h0 qk qs qp qw qr qo qn cI cJ g) sz = A at hA hG ⊢
  have hinX3 : ∀ x ∈ wsX30, x ∈ wsX3_isUsed := by decide +kernel
  have m_7 : Cond.fieldLink RX3 7 "BlockMoverModel" "kind" "[I" ∈ wsX3_isUsed := by decide +kernel
  have m_13 : Cond.fieldLink RX3 13 "BlockMoverModel" "size" "[I" ∈ wsX3_isUsed := by decide +kernel
  have m_16 : Cond.fieldLink RX3 16 "BlockMoverModel" "places" "[I" ∈ wsX3_isUsed := by decide +kernel
  have L10 : ∀ (res : ((Int32) ⊕ (Unit))) (y1_10 : Int32) (y2_10 : Int32), (∀ v, res = .inl v → v = r) → (∀ (H1 : Heap) (locs1 : List Loc) (ls1 : Array Slot) (e : Unit), res = .inr e → gG D A s.heap (wR h0 qk qs qp qw qr qo qn cI cJ g) H1 locs1 → lv_has ls1 4 [(0, .ref h0), (1, .int y1_10), (2, .int y2_10)] → W p l e0 { frames := 0, cells := 0, slots := 0, locals := 0 } s m ([.ref h0, .int x1] : List Value).toArray below meth c H1 locs1 0 0 (MQ below (gQi D (gT cI cJ) A r (wR h0 qk qs qp qw qr qo qn cI cJ g)) ([.ref h0, .int x1] : List Value).toArray s 0 0 A) (F0 m 53 ls1 [])) → ∀ (n : Nat) (y3_10 : Int32) (H : Heap) (locs : List Loc) (ls : Array Slot), gG D A s.heap (wR h0 qk qs qp qw qr qo qn cI cJ g) H locs → lv_has ls 4 [(0, .ref h0), (1, .int y1_10), (2, .int y2_10), (3, .int y3_10)] → itl (fun a : Int32 => b_X3_isUsed_10 y1_10 y2_10 g a) n y3_10 = some res → W p l e0 { frames := 0, cells := 0, slots := 0, locals := 0 } s m ([.ref h0, .int x1] : List Value).toArray below meth c H locs 0 0 (MQ below (gQi D (gT cI cJ) A r (wR h0 qk qs qp qw qr qo qn cI cJ g)) ([.ref h0, .int x1] : List Value).toArray s 0 0 A) (F0 m 10 ls []) := by
    intro res y1_10 y2_10 hKr10 hKe10 n
    induction n with
    | zero => exact fun y3_10 H locs ls hG hl hf => (itl_0 hf).elim
    | succ n ih =>
      intro y3_10 H locs ls hG hl hf
      obtain ⟨o, hf, ho10, hn10⟩ := itl_s hf
      have hf : b_X3_isUsed_10 y1_10 y2_10 g y3_10 = some o := hf
      unfold b_X3_isUsed_10 at hf
      refine lv_aload_n hx hb dX3_isUsed_10 rfl (lv_at hl 0 rfl) ?_
      refine g_get hK hG B hinX3 0 rfl rfl 0 (by decide) m_7 rfl dX3_isUsed_11 ?_
      refine lv_iload_n hx hb dX3_isUsed_14 rfl (lv_at hl 2 rfl) ?_
      obtain ⟨vq_2, hf⟩ := chk_s hf
      refine g_iald hK hG B 1 rfl vq_2 dX3_isUsed_15 ?_
      refine lv_iconst (v := 2) hx hb dX3_isUsed_16 (by decide) ?_
      refine lv_icmp_ne (tgt := 53) hx hb dX3_isUsed_17 (by decide) (fun cq_3 => ?_) (fun cq_3 => ?_)
      · have hf := ifF cq_3 hf
        have hres := ho10 _ (Option.some.inj hf).symm
        exact hKe10 _ _ _ () hres.symm hG (lv_sub hl [0, 1, 2] rfl)
      · have hf := ifT cq_3 hf
        refine lv_iload_n hx hb dX3_isUsed_20 rfl (lv_at hl 3 rfl) ?_
        refine lv_aload_n hx hb dX3_isUsed_21 rfl (lv_at hl 0 rfl) ?_
        refine g_get hK hG B hinX3 0 rfl rfl 1 (by decide) m_13 rfl dX3_isUsed_22 ?_
        refine lv_iload_n hx hb dX3_isUsed_25 rfl (lv_at hl 2 rfl) ?_
        obtain ⟨vq_4, hf⟩ := chk_s hf
        refine g_iald hK hG B 2 rfl vq_4 dX3_isUsed_26 ?_
        refine lv_icmp_ge (tgt := 53) hx hb dX3_isUsed_27 (by decide) (fun cq_5 => ?_) (fun cq_5 => ?_)
        · have hf := ifT cq_5 hf
          have hres := ho10 _ (Option.some.inj hf).symm
          exact hKe10 _ _ _ () hres.symm hG (lv_sub hl [0, 1, 2] rfl)
        · have hf := ifF cq_5 hf
          refine lv_aload_n hx hb dX3_isUsed_30 rfl (lv_at hl 0 rfl) ?_
          refine g_get hK hG B hinX3 0 rfl rfl 2 (by decide) m_16 rfl dX3_isUsed_31 ?_
          refine lv_bipush (v := 8) hx hb dX3_isUsed_34 (by decide) ?_
          refine lv_iload_n hx hb dX3_isUsed_36 rfl (lv_at hl 2 rfl) ?_
          refine lv_imul hx hb dX3_isUsed_37 ?_
          refine lv_iload_n hx hb dX3_isUsed_38 rfl (lv_at hl 3 rfl) ?_
          refine lv_iadd hx hb dX3_isUsed_39 ?_
          obtain ⟨vq_6, hf⟩ := chk_s hf
          refine g_iald hK hG B 3 rfl vq_6 dX3_isUsed_40 ?_
          refine lv_iload_n hx hb dX3_isUsed_41 rfl (lv_at hl 1 rfl) ?_
          refine lv_icmp_ne (tgt := 47) hx hb dX3_isUsed_42 (by decide) (fun cq_7 => ?_) (fun cq_7 => ?_)
          · have hf := ifF cq_7 hf
            refine lv_iinc (v := (y3_10 + (1 : Int32))) (lv' := [(3, .int (y3_10 + (1 : Int32))), (0, .ref h0), (1, .int y1_10), (2, .int y2_10)]) hx hb dX3_isUsed_47 hl (k := 3) rfl rfl (by decide) rfl (fun ls hl => ?_)
            refine lv_goto (tgt := 10) hx hb dX3_isUsed_50 (by decide) ?_
            have hn := hn10 _ (Option.some.inj hf).symm
            exact ih (y3_10 + (1 : Int32)) _ _ _ hG (lv_sub hl [1, 2, 3, 0] rfl) hn
          · have hf := ifT cq_7 hf
            refine lv_iconst (v := 1) hx hb dX3_isUsed_45 (by decide) ?_
            have hf := hKr10 _ (ho10 _ (Option.some.inj hf).symm).symm
            exact g_iret hr hlk hK hG B rfl hf dX3_isUsed_46
  have L2 : ∀ (res : ((Int32) ⊕ (Unit))) (y1_2 : Int32), (∀ v, res = .inl v → v = r) → (∀ (H1 : Heap) (locs1 : List Loc) (ls1 : Array Slot) (e : Unit), res = .inr e → gG D A s.heap (wR h0 qk qs qp qw qr qo qn cI cJ g) H1 locs1 → lv_has ls1 4 [] → W p l e0 { frames := 0, cells := 0, slots := 0, locals := 0 } s m ([.ref h0, .int x1] : List Value).toArray below meth c H1 locs1 0 0 (MQ below (gQi D (gT cI cJ) A r (wR h0 qk qs qp qw qr qo qn cI cJ g)) ([.ref h0, .int x1] : List Value).toArray s 0 0 A) (F0 m 59 ls1 [])) → ∀ (n : Nat) (y2_2 : Int32) (H : Heap) (locs : List Loc) (ls : Array Slot), gG D A s.heap (wR h0 qk qs qp qw qr qo qn cI cJ g) H locs → lv_has ls 4 [(0, .ref h0), (1, .int y1_2), (2, .int y2_2)] → itl (fun a : Int32 => b_X3_isUsed_2 y1_2 g a) n y2_2 = some res → W p l e0 { frames := 0, cells := 0, slots := 0, locals := 0 } s m ([.ref h0, .int x1] : List Value).toArray below meth c H locs 0 0 (MQ below (gQi D (gT cI cJ) A r (wR h0 qk qs qp qw qr qo qn cI cJ g)) ([.ref h0, .int x1] : List Value).toArray s 0 0 A) (F0 m 2 ls []) := by
    intro res y1_2 hKr2 hKe2 n
    induction n with
    | zero => exact fun y2_2 H locs ls hG hl hf => (itl_0 hf).elim
    | succ n ih =>
      intro y2_2 H locs ls hG hl hf
      obtain ⟨o, hf, ho2, hn2⟩ := itl_s hf
      have hf : b_X3_isUsed_2 y1_2 g y2_2 = some o := hf
      unfold b_X3_isUsed_2 at hf
      refine lv_iload_n hx hb dX3_isUsed_2 rfl (lv_at hl 2 rfl) ?_
      refine lv_bipush (v := 12) hx hb dX3_isUsed_3 (by decide) ?_
      refine lv_icmp_ge (tgt := 59) hx hb dX3_isUsed_5 (by decide) (fun cq_1 => ?_) (fun cq_1 => ?_)
      · have hf := ifT cq_1 hf
        have hres := ho2 _ (Option.some.inj hf).symm
        exact hKe2 _ _ _ () hres.symm hG (lv_sub hl [] rfl)
      · have hf := ifF cq_1 hf
        refine lv_iconst (v := 0) hx hb dX3_isUsed_8 (by decide) ?_
        refine lv_istore_n (lv' := [(3, .int (0 : Int32)), (0, .ref h0), (1, .int y1_2), (2, .int y2_2)]) hx hb dX3_isUsed_9 rfl hl (by decide) rfl (fun ls hl => ?_)
        obtain ⟨zv_8, hizv_8, hf⟩ := ob hf
        refine L10 zv_8 y1_2 y2_2 (fun v hres => by subst hres; have hf := se_l hf; exact hKr2 _ (ho2 _ (Option.some.inj hf).symm).symm) (fun H locs ls ev_8 hres hG hl => ?_) 300 (0 : Int32) _ _ _ hG (lv_sub hl [1, 2, 3, 0] rfl) hizv_8
        have hres := hres.symm
        subst hres
        have hf := se_r hf
        refine lv_iinc (v := (y2_2 + (1 : Int32))) (lv' := [(2, .int (y2_2 + (1 : Int32))), (0, .ref h0), (1, .int y1_2)]) hx hb dX3_isUsed_53 hl (k := 2) rfl rfl (by decide) rfl (fun ls hl => ?_)
        refine lv_goto (tgt := 2) hx hb dX3_isUsed_56 (by decide) ?_
        have hn := hn2 _ (Option.some.inj hf).symm
        exact ih (y2_2 + (1 : Int32)) _ _ _ hG (lv_sub hl [1, 2, 0] rfl) hn
  unfold f_X3_isUsed at hf
  refine lv_iconst (v := 0) hx hb dX3_isUsed_0 (by decide) ?_
  refine lv_istore_n (lv' := [(2, .int (0 : Int32)), (0, .ref h0), (1, .int x1)]) hx hb dX3_isUsed_1 rfl hl (by decide) rfl (fun ls hl => ?_)
  obtain ⟨zv_9, hizv_9, hf⟩ := ob hf
  refine L2 zv_9 x1 (fun v hres => by subst hres; have hf := se_l hf; exact Option.some.inj hf) (fun H locs ls ev_9 hres hG hl => ?_) 300 (0 : Int32) _ _ _ hG (lv_sub hl [1, 2, 0] rfl) hizv_9
  have hres := hres.symm
  subst hres
  have hf := se_r hf
  refine lv_iconst (v := 0) hx hb dX3_isUsed_59 (by decide) ?_
  have hf := Option.some.inj hf
  exact g_iret hr hlk hK hG B rfl hf dX3_isUsed_60
def b_X3_leastFree_2  (g : RS) (y1_2 : Int32) : Option (((Int32) ⊕ (Unit)) ⊕ (Int32)) := (if (40 : Int32) ≤ y1_2 then some (.inl (.inr ())) else ((f_X3_isUsed y1_2 g).bind (fun zv_2 => (if zv_2 = (0 : Int32) then some (.inl (.inl y1_2)) else some (.inr (y1_2 + (1 : Int32)))))))
def f_X3_leastFree  (g : RS) : Option Int32 := ((itl (fun a : Int32 => b_X3_leastFree_2  g a) 300 (0 : Int32)).bind (fun zv_4 => Sum.elim (fun v => some v) (fun ev_4 => some (-1 : Int32)) zv_4))
set_option maxHeartbeats 4000000 in
set_option maxRecDepth 100000 in
theorem c_X3_leastFree (l : Launch) (D : va_G) (cI cJ : ClassId) (h0 qk qs qp qw qr qo qn sz : Nat) (g : RS)  (r : Int32) (hf : f_X3_leastFree  g = some r) : Met l yX3_leastFree wsX3_leastFree { frames := 1, cells := 0, slots := 0, locals := 23 } (gPc D (gT cI cJ) sz (wR h0 qk qs qp qw qr qo qn cI cJ g) [.ref h0]) (gQi D (gT cI cJ) (va_A (wR h0 qk qs qp qw qr qo qn cI cJ g) sz) r (wR h0 qk qs qp qw qr qo qn cI cJ g)) 0 0 (va_A (wR h0 qk qs qp qw qr qo qn cI cJ g) sz) := by
  refine gMet (cc := cX3_leastFree) (maxL := 2) (ret := (some .int)) (by decide) rfl ?_ (Nat.le_of_ble_eq_true rfl)
  intro p e0 s m below meth c ls B hr hlk hsz hK hG hl
  have hA : ∀ q : Nat, s.heap.size ≤ q → va_A (wR h0 qk qs qp qw qr qo qn cI cJ g) sz q := fun q h => Or.inr (hsz ▸ h)
  have hx := B.1
  have hb := B.2.1
  have hts := B.2.2.2.2
  have hl : lv_has ls 2 [(0, .ref h0)] := hl
  generalize va_A (wR h0 qk qs qp qw qr qo qn cI cJ g) sz = A at hA hG ⊢
  have L2 : ∀ (res : ((Int32) ⊕ (Unit))) , (∀ v, res = .inl v → v = r) → (∀ (H1 : Heap) (locs1 : List Loc) (ls1 : Array Slot) (e : Unit), res = .inr e → gG D A s.heap (wR h0 qk qs qp qw qr qo qn cI cJ g) H1 locs1 → lv_has ls1 2 [] → W p l e0 { frames := 1, cells := 0, slots := 0, locals := 23 } s m ([.ref h0] : List Value).toArray below meth c H1 locs1 0 0 (MQ below (gQi D (gT cI cJ) A r (wR h0 qk qs qp qw qr qo qn cI cJ g)) ([.ref h0] : List Value).toArray s 0 0 A) (F0 m 24 ls1 [])) → ∀ (n : Nat) (y1_2 : Int32) (H : Heap) (locs : List Loc) (ls : Array Slot), gG D A s.heap (wR h0 qk qs qp qw qr qo qn cI cJ g) H locs → lv_has ls 2 [(0, .ref h0), (1, .int y1_2)] → itl (fun a : Int32 => b_X3_leastFree_2  g a) n y1_2 = some res → W p l e0 { frames := 1, cells := 0, slots := 0, locals := 23 } s m ([.ref h0] : List Value).toArray below meth c H locs 0 0 (MQ below (gQi D (gT cI cJ) A r (wR h0 qk qs qp qw qr qo qn cI cJ g)) ([.ref h0] : List Value).toArray s 0 0 A) (F0 m 2 ls []) := by
    intro res  hKr2 hKe2 n
    induction n with
    | zero => exact fun y1_2 H locs ls hG hl hf => (itl_0 hf).elim
    | succ n ih =>
      intro y1_2 H locs ls hG hl hf
      obtain ⟨o, hf, ho2, hn2⟩ := itl_s hf
      have hf : b_X3_leastFree_2  g y1_2 = some o := hf
      unfold b_X3_leastFree_2 at hf
      refine lv_iload_n hx hb dX3_leastFree_2 rfl (lv_at hl 1 rfl) ?_
      refine lv_bipush (v := 40) hx hb dX3_leastFree_3 (by decide) ?_
      refine lv_icmp_ge (tgt := 24) hx hb dX3_leastFree_5 (by decide) (fun cq_1 => ?_) (fun cq_1 => ?_)
      · have hf := ifT cq_1 hf
        have hres := ho2 _ (Option.some.inj hf).symm
        exact hKe2 _ _ _ () hres.symm hG (lv_sub hl [] rfl)
      · have hf := ifF cq_1 hf
        refine lv_aload_n hx hb dX3_leastFree_8 rfl (lv_at hl 0 rfl) ?_
        refine lv_iload_n hx hb dX3_leastFree_9 rfl (lv_at hl 1 rfl) ?_
        obtain ⟨zv_2, hqzv_2, hf⟩ := ob hf
        refine gc_Vi hA hK hl.1 hG B (c_X3_isUsed l D cI cJ h0 qk qs qp qw qr qo qn _ g y1_2 _ hqzv_2) (cwV 1 hts gX3_leastFree_X3_isUsed rfl rfl rfl (by decide +kernel) ⟨by decide, by decide⟩) 0 rfl rfl rfl rfl rfl (Nat.le_of_ble_eq_true rfl) dX3_leastFree_10 ⟨Nat.zero_le _, Nat.zero_le _⟩ (fun H locs hG => ?_)
        refine lv_if_ne (tgt := 18) hx hb dX3_leastFree_13 (by decide) (fun cq_3 => ?_) (fun cq_3 => ?_)
        · have hf := ifF cq_3 hf
          refine lv_iinc (v := (y1_2 + (1 : Int32))) (lv' := [(1, .int (y1_2 + (1 : Int32))), (0, .ref h0)]) hx hb dX3_leastFree_18 hl (k := 1) rfl rfl (by decide) rfl (fun ls hl => ?_)
          refine lv_goto (tgt := 2) hx hb dX3_leastFree_21 (by decide) ?_
          have hn := hn2 _ (Option.some.inj hf).symm
          exact ih (y1_2 + (1 : Int32)) _ _ _ hG (lv_sub hl [1, 0] rfl) hn
        · have hf := ifT cq_3 hf
          refine lv_iload_n hx hb dX3_leastFree_16 rfl (lv_at hl 1 rfl) ?_
          have hf := hKr2 _ (ho2 _ (Option.some.inj hf).symm).symm
          exact g_iret hr hlk hK hG B rfl hf dX3_leastFree_17
  unfold f_X3_leastFree at hf
  refine lv_iconst (v := 0) hx hb dX3_leastFree_0 (by decide) ?_
  refine lv_istore_n (lv' := [(1, .int (0 : Int32)), (0, .ref h0)]) hx hb dX3_leastFree_1 rfl hl (by decide) rfl (fun ls hl => ?_)
  obtain ⟨zv_4, hizv_4, hf⟩ := ob hf
  refine L2 zv_4  (fun v hres => by subst hres; have hf := se_l hf; exact Option.some.inj hf) (fun H locs ls ev_4 hres hG hl => ?_) 300 (0 : Int32) _ _ _ hG (lv_sub hl [1, 0] rfl) hizv_4
  have hres := hres.symm
  subst hres
  have hf := se_r hf
  refine lv_iconst (v := -1) hx hb dX3_leastFree_24 (by decide) ?_
  have hf := Option.some.inj hf
  exact g_iret hr hlk hK hG B rfl hf dX3_leastFree_25
def b_X3_greatestFree_3  (g : RS) (y1_3 : Int32) : Option (((Int32) ⊕ (Unit)) ⊕ (Int32)) := (if y1_3 < (0 : Int32) then some (.inl (.inr ())) else ((f_X3_isUsed y1_3 g).bind (fun zv_2 => (if zv_2 = (0 : Int32) then some (.inl (.inl y1_3)) else some (.inr (y1_3 + (-1 : Int32)))))))
def f_X3_greatestFree  (g : RS) : Option Int32 := ((itl (fun a : Int32 => b_X3_greatestFree_3  g a) 300 (39 : Int32)).bind (fun zv_4 => Sum.elim (fun v => some v) (fun ev_4 => some (-1 : Int32)) zv_4))
set_option maxHeartbeats 4000000 in
set_option maxRecDepth 100000 in
theorem c_X3_greatestFree (l : Launch) (D : va_G) (cI cJ : ClassId) (h0 qk qs qp qw qr qo qn sz : Nat) (g : RS)  (r : Int32) (hf : f_X3_greatestFree  g = some r) : Met l yX3_greatestFree wsX3_greatestFree { frames := 1, cells := 0, slots := 0, locals := 23 } (gPc D (gT cI cJ) sz (wR h0 qk qs qp qw qr qo qn cI cJ g) [.ref h0]) (gQi D (gT cI cJ) (va_A (wR h0 qk qs qp qw qr qo qn cI cJ g) sz) r (wR h0 qk qs qp qw qr qo qn cI cJ g)) 0 0 (va_A (wR h0 qk qs qp qw qr qo qn cI cJ g) sz) := by
  refine gMet (cc := cX3_greatestFree) (maxL := 2) (ret := (some .int)) (by decide) rfl ?_ (Nat.le_of_ble_eq_true rfl)
  intro p e0 s m below meth c ls B hr hlk hsz hK hG hl
  have hA : ∀ q : Nat, s.heap.size ≤ q → va_A (wR h0 qk qs qp qw qr qo qn cI cJ g) sz q := fun q h => Or.inr (hsz ▸ h)
  have hx := B.1
  have hb := B.2.1
  have hts := B.2.2.2.2
  have hl : lv_has ls 2 [(0, .ref h0)] := hl
  generalize va_A (wR h0 qk qs qp qw qr qo qn cI cJ g) sz = A at hA hG ⊢
  have L3 : ∀ (res : ((Int32) ⊕ (Unit))) , (∀ v, res = .inl v → v = r) → (∀ (H1 : Heap) (locs1 : List Loc) (ls1 : Array Slot) (e : Unit), res = .inr e → gG D A s.heap (wR h0 qk qs qp qw qr qo qn cI cJ g) H1 locs1 → lv_has ls1 2 [] → W p l e0 { frames := 1, cells := 0, slots := 0, locals := 23 } s m ([.ref h0] : List Value).toArray below meth c H1 locs1 0 0 (MQ below (gQi D (gT cI cJ) A r (wR h0 qk qs qp qw qr qo qn cI cJ g)) ([.ref h0] : List Value).toArray s 0 0 A) (F0 m 23 ls1 [])) → ∀ (n : Nat) (y1_3 : Int32) (H : Heap) (locs : List Loc) (ls : Array Slot), gG D A s.heap (wR h0 qk qs qp qw qr qo qn cI cJ g) H locs → lv_has ls 2 [(0, .ref h0), (1, .int y1_3)] → itl (fun a : Int32 => b_X3_greatestFree_3  g a) n y1_3 = some res → W p l e0 { frames := 1, cells := 0, slots := 0, locals := 23 } s m ([.ref h0] : List Value).toArray below meth c H locs 0 0 (MQ below (gQi D (gT cI cJ) A r (wR h0 qk qs qp qw qr qo qn cI cJ g)) ([.ref h0] : List Value).toArray s 0 0 A) (F0 m 3 ls []) := by
    intro res  hKr3 hKe3 n
    induction n with
    | zero => exact fun y1_3 H locs ls hG hl hf => (itl_0 hf).elim
    | succ n ih =>
      intro y1_3 H locs ls hG hl hf
      obtain ⟨o, hf, ho3, hn3⟩ := itl_s hf
      have hf : b_X3_greatestFree_3  g y1_3 = some o := hf
      unfold b_X3_greatestFree_3 at hf
      refine lv_iload_n hx hb dX3_greatestFree_3 rfl (lv_at hl 1 rfl) ?_
      refine lv_if_lt (tgt := 23) hx hb dX3_greatestFree_4 (by decide) (fun cq_1 => ?_) (fun cq_1 => ?_)
      · have hf := ifT cq_1 hf
        have hres := ho3 _ (Option.some.inj hf).symm
        exact hKe3 _ _ _ () hres.symm hG (lv_sub hl [] rfl)
      · have hf := ifF cq_1 hf
        refine lv_aload_n hx hb dX3_greatestFree_7 rfl (lv_at hl 0 rfl) ?_
        refine lv_iload_n hx hb dX3_greatestFree_8 rfl (lv_at hl 1 rfl) ?_
        obtain ⟨zv_2, hqzv_2, hf⟩ := ob hf
        refine gc_Vi hA hK hl.1 hG B (c_X3_isUsed l D cI cJ h0 qk qs qp qw qr qo qn _ g y1_3 _ hqzv_2) (cwV 1 hts gX3_greatestFree_X3_isUsed rfl rfl rfl (by decide +kernel) ⟨by decide, by decide⟩) 0 rfl rfl rfl rfl rfl (Nat.le_of_ble_eq_true rfl) dX3_greatestFree_9 ⟨Nat.zero_le _, Nat.zero_le _⟩ (fun H locs hG => ?_)
        refine lv_if_ne (tgt := 17) hx hb dX3_greatestFree_12 (by decide) (fun cq_3 => ?_) (fun cq_3 => ?_)
        · have hf := ifF cq_3 hf
          refine lv_iinc (v := (y1_3 + (-1 : Int32))) (lv' := [(1, .int (y1_3 + (-1 : Int32))), (0, .ref h0)]) hx hb dX3_greatestFree_17 hl (k := 1) rfl rfl (by decide) rfl (fun ls hl => ?_)
          refine lv_goto (tgt := 3) hx hb dX3_greatestFree_20 (by decide) ?_
          have hn := hn3 _ (Option.some.inj hf).symm
          exact ih (y1_3 + (-1 : Int32)) _ _ _ hG (lv_sub hl [1, 0] rfl) hn
        · have hf := ifT cq_3 hf
          refine lv_iload_n hx hb dX3_greatestFree_15 rfl (lv_at hl 1 rfl) ?_
          have hf := hKr3 _ (ho3 _ (Option.some.inj hf).symm).symm
          exact g_iret hr hlk hK hG B rfl hf dX3_greatestFree_16
  unfold f_X3_greatestFree at hf
  refine lv_bipush (v := 39) hx hb dX3_greatestFree_0 (by decide) ?_
  refine lv_istore_n (lv' := [(1, .int (39 : Int32)), (0, .ref h0)]) hx hb dX3_greatestFree_2 rfl hl (by decide) rfl (fun ls hl => ?_)
  obtain ⟨zv_4, hizv_4, hf⟩ := ob hf
  refine L3 zv_4  (fun v hres => by subst hres; have hf := se_l hf; exact Option.some.inj hf) (fun H locs ls ev_4 hres hG hl => ?_) 300 (39 : Int32) _ _ _ hG (lv_sub hl [1, 0] rfl) hizv_4
  have hres := hres.symm
  subst hres
  have hf := se_r hf
  refine lv_iconst (v := -1) hx hb dX3_greatestFree_23 (by decide) ?_
  have hf := Option.some.inj hf
  exact g_iret hr hlk hK hG B rfl hf dX3_greatestFree_24
def b_X3_make_55 (y1_55 : Int32) (y2_55 : Int32) (y3_55 : Int32) (g55 : RS) (y4_55 : Int32) : Option ((Int32) ⊕ (Int32)) := (if (12 : Int32) ≤ y4_55 then some (.inl y4_55) else (chk y4_55 12 ((if (R_kind g55 y4_55.toNatClampNeg) = (0 : Int32) then some (.inl y4_55) else some (.inr (y4_55 + (1 : Int32)))))))
def b_X3_make_110 (y1_110 : Int32) (y2_110 : Int32) (y3_110 : Int32) (y4_110 : Int32) (y5_110 : Int32) (y6_110 : Int32) (g110 : RS) : Option ((RS) ⊕ (Int32 × RS)) := (if (8 : Int32) ≤ y6_110 then some (.inl g110) else ((f_X3_setPlace y4_110 y6_110 (0 : Int32) g110).bind (fun zv_17 => some (.inr ((y6_110 + (1 : Int32)), zv_17)))))
def f_X3_make (x1 : Int32) (x2 : Int32) (x3 : Int32) (g : RS) : Option (Int32 × RS) := ((f_X3_isInode x1 (1 : Int32) g).bind (fun zv_1 => (if zv_1 = (0 : Int32) then some ((-1 : Int32), g) else (if (f_X3_isName x2) = (0 : Int32) then some ((-1 : Int32), g) else (if (f_X3_in x3.toInt64 (1 : Int64) (2 : Int64)) = (0 : Int32) then some ((-1 : Int32), g) else (if (R_down g) = (0 : Int32) then ((f_X3_entry x1 x2 g).bind (fun zv_6 => (if zv_6 < (0 : Int32) then ((itl (fun a : Int32 => b_X3_make_55 x1 x2 x3 g a) 300 (0 : Int32)).bind (fun ev_11 => ((f_X3_noEntry x1 g).bind (fun zv_12 => (if ev_11 = (12 : Int32) then some ((-5 : Int32), g) else (if (0 : Int32) ≤ zv_12 then ((f_X3_setSize ev_11 (0 : Int32) g).bind (fun zv_15 => ((itl (fun a : Int32 × RS => b_X3_make_110 x1 x2 x3 ev_11 zv_12 a.1 a.2) 300 ((0 : Int32), zv_15)).bind (fun ev_18 => ((f_X3_setKind ev_11 x3 ev_18).bind (fun zv_19 => ((f_X3_setPlace x1 zv_12 (((100 : Int32) * ev_11) + x2) zv_19).bind (fun zv_20 => (if (R_down zv_20) = (0 : Int32) then some (ev_11, zv_20) else some ((-2 : Int32), zv_20)))))))))) else some ((-5 : Int32), g))))))) else some ((-4 : Int32), g)))) else some ((-2 : Int32), g)))))))
set_option maxHeartbeats 4000000 in
set_option maxRecDepth 100000 in
theorem c_X3_make (l : Launch) (D : va_G) (cI cJ : ClassId) (h0 qk qs qp qw qr qo qn sz : Nat) (g : RS) (x1 : Int32) (x2 : Int32) (x3 : Int32) (r : Int32) (g1 : RS) (hf : f_X3_make x1 x2 x3 g = some (r, g1)) : Met l yX3_make wsX3_make { frames := 2, cells := 0, slots := 0, locals := 47 } (gPc D (gT cI cJ) sz (wR h0 qk qs qp qw qr qo qn cI cJ g) [.ref h0, .int x1, .int x2, .int x3]) (gQi D (gT cI cJ) (va_A (wR h0 qk qs qp qw qr qo qn cI cJ g) sz) r (wR h0 qk qs qp qw qr qo qn cI cJ g1)) 0 0 (va_A (wR h0 qk qs qp qw qr qo qn cI cJ g) sz) := by
  refine gMet (cc := cX3_make) (maxL := 7) (ret := (some .int)) (by decide) rfl ?_ (Nat.le_of_ble_eq_true rfl)
  intro p e0 s m below meth c ls B hr hlk hsz hK hG hl
  have hA : ∀ q : Nat, s.heap.size ≤ q → va_A (wR h0 qk qs qp qw qr qo qn cI cJ g) sz q := fun q h => Or.inr (hsz ▸ h)
  have hx := B.1
  have hb := B.2.1
  have hts := B.2.2.2.2
  have hl : lv_has ls 7 [(0, .ref h0), (1, .int x1), (2, .int x2), (3, .int x3)] := hl
  generalize va_A (wR h0 qk qs qp qw qr qo qn cI cJ g) sz = A at hA hG ⊢
  have hinX3 : ∀ x ∈ wsX30, x ∈ wsX3_make := by decide +kernel
  have m_7 : Cond.fieldLink RX3 7 "BlockMoverModel" "kind" "[I" ∈ wsX3_make := by decide +kernel
  have m_36 : Cond.fieldLink RX3 36 "BlockMoverModel" "down" "Z" ∈ wsX3_make := by decide +kernel
  have L55 : ∀ (res : (Int32)) (y1_55 : Int32) (y2_55 : Int32) (y3_55 : Int32) (g55 : RS), (∀ (H1 : Heap) (locs1 : List Loc) (ls1 : Array Slot) (e : Int32), res = e → gG D A s.heap (wR h0 qk qs qp qw qr qo qn cI cJ g55) H1 locs1 → lv_has ls1 7 [(0, .ref h0), (1, .int y1_55), (2, .int y2_55), (3, .int y3_55), (4, .int e)] → W p l e0 { frames := 2, cells := 0, slots := 0, locals := 47 } s m ([.ref h0, .int x1, .int x2, .int x3] : List Value).toArray below meth c H1 locs1 0 0 (MQ below (gQi D (gT cI cJ) A r (wR h0 qk qs qp qw qr qo qn cI cJ g1)) ([.ref h0, .int x1, .int x2, .int x3] : List Value).toArray s 0 0 A) (F0 m 78 ls1 [])) → ∀ (n : Nat) (y4_55 : Int32) (H : Heap) (locs : List Loc) (ls : Array Slot), gG D A s.heap (wR h0 qk qs qp qw qr qo qn cI cJ g55) H locs → lv_has ls 7 [(0, .ref h0), (1, .int y1_55), (2, .int y2_55), (3, .int y3_55), (4, .int y4_55)] → itl (fun a : Int32 => b_X3_make_55 y1_55 y2_55 y3_55 g55 a) n y4_55 = some res → W p l e0 { frames := 2, cells := 0, slots := 0, locals := 47 } s m ([.ref h0, .int x1, .int x2, .int x3] : List Value).toArray below meth c H locs 0 0 (MQ below (gQi D (gT cI cJ) A r (wR h0 qk qs qp qw qr qo qn cI cJ g1)) ([.ref h0, .int x1, .int x2, .int x3] : List Value).toArray s 0 0 A) (F0 m 55 ls []) := by
    intro res y1_55 y2_55 y3_55 g55 hKe55 n
    induction n with
    | zero => exact fun y4_55 H locs ls hG hl hf => (itl_0 hf).elim
    | succ n ih =>
      intro y4_55 H locs ls hG hl hf
      obtain ⟨o, hf, ho55, hn55⟩ := itl_s hf
      have hf : b_X3_make_55 y1_55 y2_55 y3_55 g55 y4_55 = some o := hf
      unfold b_X3_make_55 at hf
      refine lv_iload hx hb dX3_make_55 (lv_at hl 4 rfl) ?_
      refine lv_bipush (v := 12) hx hb dX3_make_57 (by decide) ?_
      refine lv_icmp_ge (tgt := 78) hx hb dX3_make_59 (by decide) (fun cq_8 => ?_) (fun cq_8 => ?_)
      · have hf := ifT cq_8 hf
        have hres := ho55 _ (Option.some.inj hf).symm
        exact hKe55 _ _ _ y4_55 hres.symm hG (lv_sub hl [0, 1, 2, 3, 4] rfl)
      · have hf := ifF cq_8 hf
        refine lv_aload_n hx hb dX3_make_62 rfl (lv_at hl 0 rfl) ?_
        refine g_get hK hG B hinX3 0 rfl rfl 0 (by decide) m_7 rfl dX3_make_63 ?_
        refine lv_iload hx hb dX3_make_66 (lv_at hl 4 rfl) ?_
        obtain ⟨vq_9, hf⟩ := chk_s hf
        refine g_iald hK hG B 1 rfl vq_9 dX3_make_68 ?_
        refine lv_if_eq (tgt := 78) hx hb dX3_make_69 (by decide) (fun cq_10 => ?_) (fun cq_10 => ?_)
        · have hf := ifT cq_10 hf
          have hres := ho55 _ (Option.some.inj hf).symm
          exact hKe55 _ _ _ y4_55 hres.symm hG (lv_sub hl [0, 1, 2, 3, 4] rfl)
        · have hf := ifF cq_10 hf
          refine lv_iinc (v := (y4_55 + (1 : Int32))) (lv' := [(4, .int (y4_55 + (1 : Int32))), (0, .ref h0), (1, .int y1_55), (2, .int y2_55), (3, .int y3_55)]) hx hb dX3_make_72 hl (k := 4) rfl rfl (by decide) rfl (fun ls hl => ?_)
          refine lv_goto (tgt := 55) hx hb dX3_make_75 (by decide) ?_
          have hn := hn55 _ (Option.some.inj hf).symm
          exact ih (y4_55 + (1 : Int32)) _ _ _ hG (lv_sub hl [1, 2, 3, 4, 0] rfl) hn
  have L110 : ∀ (res : (RS)) (y1_110 : Int32) (y2_110 : Int32) (y3_110 : Int32) (y4_110 : Int32) (y5_110 : Int32), (∀ (H1 : Heap) (locs1 : List Loc) (ls1 : Array Slot) (e : RS), res = e → gG D A s.heap (wR h0 qk qs qp qw qr qo qn cI cJ e) H1 locs1 → lv_has ls1 7 [(0, .ref h0), (1, .int y1_110), (2, .int y2_110), (3, .int y3_110), (4, .int y4_110), (5, .int y5_110)] → W p l e0 { frames := 2, cells := 0, slots := 0, locals := 47 } s m ([.ref h0, .int x1, .int x2, .int x3] : List Value).toArray below meth c H1 locs1 0 0 (MQ below (gQi D (gT cI cJ) A r (wR h0 qk qs qp qw qr qo qn cI cJ g1)) ([.ref h0, .int x1, .int x2, .int x3] : List Value).toArray s 0 0 A) (F0 m 132 ls1 [])) → ∀ (n : Nat) (y6_110 : Int32) (g110 : RS) (H : Heap) (locs : List Loc) (ls : Array Slot), gG D A s.heap (wR h0 qk qs qp qw qr qo qn cI cJ g110) H locs → lv_has ls 7 [(0, .ref h0), (1, .int y1_110), (2, .int y2_110), (3, .int y3_110), (4, .int y4_110), (5, .int y5_110), (6, .int y6_110)] → itl (fun a : Int32 × RS => b_X3_make_110 y1_110 y2_110 y3_110 y4_110 y5_110 a.1 a.2) n (y6_110, g110) = some res → W p l e0 { frames := 2, cells := 0, slots := 0, locals := 47 } s m ([.ref h0, .int x1, .int x2, .int x3] : List Value).toArray below meth c H locs 0 0 (MQ below (gQi D (gT cI cJ) A r (wR h0 qk qs qp qw qr qo qn cI cJ g1)) ([.ref h0, .int x1, .int x2, .int x3] : List Value).toArray s 0 0 A) (F0 m 110 ls []) := by
    intro res y1_110 y2_110 y3_110 y4_110 y5_110 hKe110 n
    induction n with
    | zero => exact fun y6_110 g110 H locs ls hG hl hf => (itl_0 hf).elim
    | succ n ih =>
      intro y6_110 g110 H locs ls hG hl hf
      obtain ⟨o, hf, ho110, hn110⟩ := itl_s hf
      have hf : b_X3_make_110 y1_110 y2_110 y3_110 y4_110 y5_110 y6_110 g110 = some o := hf
      unfold b_X3_make_110 at hf
      refine lv_iload hx hb dX3_make_110 (lv_at hl 6 rfl) ?_
      refine lv_bipush (v := 8) hx hb dX3_make_112 (by decide) ?_
      refine lv_icmp_ge (tgt := 132) hx hb dX3_make_114 (by decide) (fun cq_16 => ?_) (fun cq_16 => ?_)
      · have hf := ifT cq_16 hf
        have hres := ho110 _ (Option.some.inj hf).symm
        exact hKe110 _ _ _ g110 hres.symm hG (lv_sub hl [0, 1, 2, 3, 4, 5] rfl)
      · have hf := ifF cq_16 hf
        refine lv_aload_n hx hb dX3_make_117 rfl (lv_at hl 0 rfl) ?_
        refine lv_iload hx hb dX3_make_118 (lv_at hl 4 rfl) ?_
        refine lv_iload hx hb dX3_make_120 (lv_at hl 6 rfl) ?_
        refine lv_iconst (v := 0) hx hb dX3_make_122 (by decide) ?_
        obtain ⟨zv_17, hqzv_17, hf⟩ := ob hf
        refine gc_Vv hA hK hl.1 hG B (c_X3_setPlace l D cI cJ h0 qk qs qp qw qr qo qn _ g110 y4_110 y6_110 (0 : Int32) _ hqzv_17) (cwV 3 hts gX3_make_X3_setPlace rfl rfl rfl (by decide +kernel) ⟨by decide, by decide⟩) 0 rfl rfl rfl rfl rfl (Nat.le_of_ble_eq_true rfl) dX3_make_123 ⟨Nat.zero_le _, Nat.zero_le _⟩ (fun H locs hG => ?_)
        refine lv_iinc (v := (y6_110 + (1 : Int32))) (lv' := [(6, .int (y6_110 + (1 : Int32))), (0, .ref h0), (1, .int y1_110), (2, .int y2_110), (3, .int y3_110), (4, .int y4_110), (5, .int y5_110)]) hx hb dX3_make_126 hl (k := 6) rfl rfl (by decide) rfl (fun ls hl => ?_)
        refine lv_goto (tgt := 110) hx hb dX3_make_129 (by decide) ?_
        have hn := hn110 _ (Option.some.inj hf).symm
        exact ih (y6_110 + (1 : Int32)) zv_17 _ _ _ hG (lv_sub hl [1, 2, 3, 4, 5, 6, 0] rfl) hn
  unfold f_X3_make at hf
  refine lv_aload_n hx hb dX3_make_0 rfl (lv_at hl 0 rfl) ?_
  refine lv_iload_n hx hb dX3_make_1 rfl (lv_at hl 1 rfl) ?_
  refine lv_iconst (v := 1) hx hb dX3_make_2 (by decide) ?_
  obtain ⟨zv_1, hqzv_1, hf⟩ := ob hf
  refine gc_Vi hA hK hl.1 hG B (c_X3_isInode l D cI cJ h0 qk qs qp qw qr qo qn _ g x1 (1 : Int32) _ hqzv_1) (cwV 2 hts gX3_make_X3_isInode rfl rfl rfl (by decide +kernel) ⟨by decide, by decide⟩) 0 rfl rfl rfl rfl rfl (Nat.le_of_ble_eq_true rfl) dX3_make_3 ⟨Nat.zero_le _, Nat.zero_le _⟩ (fun H locs hG => ?_)
  refine lv_if_eq (tgt := 28) hx hb dX3_make_6 (by decide) (fun cq_2 => ?_) (fun cq_2 => ?_)
  · have hf := ifT cq_2 hf
    refine lv_iconst (v := -1) hx hb dX3_make_28 (by decide) ?_
    have hf := Option.some.inj hf
    obtain ⟨e1, e2⟩ := Prod.mk.inj hf
    subst e2
    exact g_iret hr hlk hK hG B rfl e1 dX3_make_29
  · have hf := ifF cq_2 hf
    refine lv_iload_n hx hb dX3_make_9 rfl (lv_at hl 2 rfl) ?_
    refine gc_Si hA hK hl.1 hG B (c_X3_isName l D (gT cI cJ) _ (wR h0 qk qs qp qw qr qo qn cI cJ g) x2 _ rfl) (va_cwS 1 hts gX3_make_X3_isName rfl rfl rfl (by decide +kernel) ⟨by decide, by decide⟩) rfl rfl (Nat.le_of_ble_eq_true rfl) dX3_make_10 ⟨Nat.zero_le _, Nat.zero_le _⟩ (fun H locs hG => ?_)
    refine lv_if_eq (tgt := 28) hx hb dX3_make_13 (by decide) (fun cq_3 => ?_) (fun cq_3 => ?_)
    · have hf := ifT cq_3 hf
      refine lv_iconst (v := -1) hx hb dX3_make_28 (by decide) ?_
      have hf := Option.some.inj hf
      obtain ⟨e1, e2⟩ := Prod.mk.inj hf
      subst e2
      exact g_iret hr hlk hK hG B rfl e1 dX3_make_29
    · have hf := ifF cq_3 hf
      refine lv_iload_n hx hb dX3_make_16 rfl (lv_at hl 3 rfl) ?_
      refine lv_i2l hx hb dX3_make_17 rfl ?_
      refine lv_lconst (v := 1) hx hb dX3_make_18 (by decide) ?_
      refine lv_ldc2 (v := 2) hx hb B.2.2.2.1 (hts (.constantLong RX3 68 (2)) (by decide +kernel)) dX3_make_19 ?_
      refine gc_Si hA hK hl.1 hG B (c_X3_in l D (gT cI cJ) _ (wR h0 qk qs qp qw qr qo qn cI cJ g) x3.toInt64 (1 : Int64) (2 : Int64) _ rfl) (va_cwS 3 hts gX3_make_X3_in rfl rfl rfl (by decide +kernel) ⟨by decide, by decide⟩) rfl rfl (Nat.le_of_ble_eq_true rfl) dX3_make_22 ⟨Nat.zero_le _, Nat.zero_le _⟩ (fun H locs hG => ?_)
      refine lv_if_ne (tgt := 30) hx hb dX3_make_25 (by decide) (fun cq_4 => ?_) (fun cq_4 => ?_)
      · have hf := ifF cq_4 hf
        refine lv_aload_n hx hb dX3_make_30 rfl (lv_at hl 0 rfl) ?_
        refine g_get hK hG B hinX3 0 rfl rfl 5 (by decide) m_36 rfl dX3_make_31 ?_
        refine lv_if_eq (tgt := 40) hx hb dX3_make_34 (by decide) (fun cq_5 => ?_) (fun cq_5 => ?_)
        · have hf := ifT cq_5 hf
          refine lv_aload_n hx hb dX3_make_40 rfl (lv_at hl 0 rfl) ?_
          refine lv_iload_n hx hb dX3_make_41 rfl (lv_at hl 1 rfl) ?_
          refine lv_iload_n hx hb dX3_make_42 rfl (lv_at hl 2 rfl) ?_
          obtain ⟨zv_6, hqzv_6, hf⟩ := ob hf
          refine gc_Vi hA hK hl.1 hG B (c_X3_entry l D cI cJ h0 qk qs qp qw qr qo qn _ g x1 x2 _ hqzv_6) (cwV 2 hts gX3_make_X3_entry rfl rfl rfl (by decide +kernel) ⟨by decide, by decide⟩) 0 rfl rfl rfl rfl rfl (Nat.le_of_ble_eq_true rfl) dX3_make_43 ⟨Nat.zero_le _, Nat.zero_le _⟩ (fun H locs hG => ?_)
          refine lv_if_lt (tgt := 52) hx hb dX3_make_46 (by decide) (fun cq_7 => ?_) (fun cq_7 => ?_)
          · have hf := ifT cq_7 hf
            refine lv_iconst (v := 0) hx hb dX3_make_52 (by decide) ?_
            refine lv_istore (lv' := [(4, .int (0 : Int32)), (0, .ref h0), (1, .int x1), (2, .int x2), (3, .int x3)]) hx hb dX3_make_53 hl (by decide) rfl (fun ls hl => ?_)
            obtain ⟨zv_11, hizv_11, hf⟩ := ob hf
            refine L55 zv_11 x1 x2 x3 g (fun H locs ls ev_11 hres hG hl => ?_) 300 (0 : Int32) _ _ _ hG (lv_sub hl [1, 2, 3, 4, 0] rfl) hizv_11
            have hres := hres.symm
            subst hres
            refine lv_aload_n hx hb dX3_make_78 rfl (lv_at hl 0 rfl) ?_
            refine lv_iload_n hx hb dX3_make_79 rfl (lv_at hl 1 rfl) ?_
            obtain ⟨zv_12, hqzv_12, hf⟩ := ob hf
            refine gc_Vi hA hK hl.1 hG B (c_X3_noEntry l D cI cJ h0 qk qs qp qw qr qo qn _ g x1 _ hqzv_12) (cwV 1 hts gX3_make_X3_noEntry rfl rfl rfl (by decide +kernel) ⟨by decide, by decide⟩) 0 rfl rfl rfl rfl rfl (Nat.le_of_ble_eq_true rfl) dX3_make_80 ⟨Nat.zero_le _, Nat.zero_le _⟩ (fun H locs hG => ?_)
            refine lv_istore (lv' := [(5, .int zv_12), (0, .ref h0), (1, .int x1), (2, .int x2), (3, .int x3), (4, .int ev_11)]) hx hb dX3_make_83 hl (by decide) rfl (fun ls hl => ?_)
            refine lv_iload hx hb dX3_make_85 (lv_at hl 5 rfl) ?_
            refine lv_bipush (v := 12) hx hb dX3_make_87 (by decide) ?_
            refine lv_icmp_eq (tgt := 97) hx hb dX3_make_89 (by decide) (fun cq_13 => ?_) (fun cq_13 => ?_)
            · have hf := ifT cq_13 hf
              refine lv_bipush (v := -5) hx hb dX3_make_97 (by decide) ?_
              have hf := Option.some.inj hf
              obtain ⟨e1, e2⟩ := Prod.mk.inj hf
              subst e2
              exact g_iret hr hlk hK hG B rfl e1 dX3_make_99
            · have hf := ifF cq_13 hf
              refine lv_iload hx hb dX3_make_92 (lv_at hl 0 rfl) ?_
              refine lv_if_ge (tgt := 100) hx hb dX3_make_94 (by decide) (fun cq_14 => ?_) (fun cq_14 => ?_)
              · have hf := ifT cq_14 hf
                refine lv_aload_n hx hb dX3_make_100 rfl (lv_at hl 1 rfl) ?_
                refine lv_iload hx hb dX3_make_101 (lv_at hl 5 rfl) ?_
                refine lv_iconst (v := 0) hx hb dX3_make_103 (by decide) ?_
                obtain ⟨zv_15, hqzv_15, hf⟩ := ob hf
                refine gc_Vv hA hK hl.1 hG B (c_X3_setSize l D cI cJ h0 qk qs qp qw qr qo qn _ g ev_11 (0 : Int32) _ hqzv_15) (cwV 2 hts gX3_make_X3_setSize rfl rfl rfl (by decide +kernel) ⟨by decide, by decide⟩) 0 rfl rfl rfl rfl rfl (Nat.le_of_ble_eq_true rfl) dX3_make_104 ⟨Nat.zero_le _, Nat.zero_le _⟩ (fun H locs hG => ?_)
                refine lv_iconst (v := 0) hx hb dX3_make_107 (by decide) ?_
                refine lv_istore (lv' := [(6, .int (0 : Int32)), (5, .int zv_12), (0, .ref h0), (1, .int x1), (2, .int x2), (3, .int x3), (4, .int ev_11)]) hx hb dX3_make_108 hl (by decide) rfl (fun ls hl => ?_)
                obtain ⟨zv_18, hizv_18, hf⟩ := ob hf
                refine L110 zv_18 x1 x2 x3 ev_11 zv_12 (fun H locs ls ev_18 hres hG hl => ?_) 300 (0 : Int32) zv_15 _ _ _ hG (lv_sub hl [2, 3, 4, 5, 6, 1, 0] rfl) hizv_18
                have hres := hres.symm
                subst hres
                refine lv_aload_n hx hb dX3_make_132 rfl (lv_at hl 0 rfl) ?_
                refine lv_iload hx hb dX3_make_133 (lv_at hl 4 rfl) ?_
                refine lv_iload_n hx hb dX3_make_135 rfl (lv_at hl 3 rfl) ?_
                obtain ⟨zv_19, hqzv_19, hf⟩ := ob hf
                refine gc_Vv hA hK hl.1 hG B (c_X3_setKind l D cI cJ h0 qk qs qp qw qr qo qn _ ev_18 ev_11 x3 _ hqzv_19) (cwV 2 hts gX3_make_X3_setKind rfl rfl rfl (by decide +kernel) ⟨by decide, by decide⟩) 0 rfl rfl rfl rfl rfl (Nat.le_of_ble_eq_true rfl) dX3_make_136 ⟨Nat.zero_le _, Nat.zero_le _⟩ (fun H locs hG => ?_)
                refine lv_aload_n hx hb dX3_make_139 rfl (lv_at hl 0 rfl) ?_
                refine lv_iload_n hx hb dX3_make_140 rfl (lv_at hl 1 rfl) ?_
                refine lv_iload hx hb dX3_make_141 (lv_at hl 5 rfl) ?_
                refine lv_bipush (v := 100) hx hb dX3_make_143 (by decide) ?_
                refine lv_iload hx hb dX3_make_145 (lv_at hl 4 rfl) ?_
                refine lv_imul hx hb dX3_make_147 ?_
                refine lv_iload_n hx hb dX3_make_148 rfl (lv_at hl 2 rfl) ?_
                refine lv_iadd hx hb dX3_make_149 ?_
                obtain ⟨zv_20, hqzv_20, hf⟩ := ob hf
                refine gc_Vv hA hK hl.1 hG B (c_X3_setPlace l D cI cJ h0 qk qs qp qw qr qo qn _ zv_19 x1 zv_12 (((100 : Int32) * ev_11) + x2) _ hqzv_20) (cwV 3 hts gX3_make_X3_setPlace rfl rfl rfl (by decide +kernel) ⟨by decide, by decide⟩) 0 rfl rfl rfl rfl rfl (Nat.le_of_ble_eq_true rfl) dX3_make_150 ⟨Nat.zero_le _, Nat.zero_le _⟩ (fun H locs hG => ?_)
                refine lv_aload_n hx hb dX3_make_153 rfl (lv_at hl 0 rfl) ?_
                refine g_get hK hG B hinX3 0 rfl rfl 5 (by decide) m_36 rfl dX3_make_154 ?_
                refine lv_if_eq (tgt := 165) hx hb dX3_make_157 (by decide) (fun cq_21 => ?_) (fun cq_21 => ?_)
                · have hf := ifT cq_21 hf
                  refine lv_iload hx hb dX3_make_165 (lv_at hl 4 rfl) ?_
                  have hf := Option.some.inj hf
                  obtain ⟨e1, e2⟩ := Prod.mk.inj hf
                  subst e2
                  exact g_iret hr hlk hK hG B rfl e1 dX3_make_167
                · have hf := ifF cq_21 hf
                  refine lv_bipush (v := -2) hx hb dX3_make_160 (by decide) ?_
                  refine lv_goto (tgt := 167) hx hb dX3_make_162 (by decide) ?_
                  have hf := Option.some.inj hf
                  obtain ⟨e1, e2⟩ := Prod.mk.inj hf
                  subst e2
                  exact g_iret hr hlk hK hG B rfl e1 dX3_make_167
              · have hf := ifF cq_14 hf
                refine lv_bipush (v := -5) hx hb dX3_make_97 (by decide) ?_
                have hf := Option.some.inj hf
                obtain ⟨e1, e2⟩ := Prod.mk.inj hf
                subst e2
                exact g_iret hr hlk hK hG B rfl e1 dX3_make_99
          · have hf := ifF cq_7 hf
            refine lv_bipush (v := -4) hx hb dX3_make_49 (by decide) ?_
            have hf := Option.some.inj hf
            obtain ⟨e1, e2⟩ := Prod.mk.inj hf
            subst e2
            exact g_iret hr hlk hK hG B rfl e1 dX3_make_51
        · have hf := ifF cq_5 hf
          refine lv_bipush (v := -2) hx hb dX3_make_37 (by decide) ?_
          have hf := Option.some.inj hf
          obtain ⟨e1, e2⟩ := Prod.mk.inj hf
          subst e2
          exact g_iret hr hlk hK hG B rfl e1 dX3_make_39
      · have hf := ifT cq_4 hf
        refine lv_iconst (v := -1) hx hb dX3_make_28 (by decide) ?_
        have hf := Option.some.inj hf
        obtain ⟨e1, e2⟩ := Prod.mk.inj hf
        subst e2
        exact g_iret hr hlk hK hG B rfl e1 dX3_make_29
def f_X3_append (x1 : Int32) (x2 : Int64) (x4 : Int64) (x6 : Int64) (g : RS) : Option (Int32 × RS) := ((f_X3_isInode x1 (2 : Int32) g).bind (fun zv_1 => (if zv_1 = (0 : Int32) then some ((-1 : Int32), g) else (if (R_down g) = (0 : Int32) then ((f_X3_leastFree  g).bind (fun zv_4 => (chk x1 12 ((if (R_size g x1.toNatClampNeg) = (8 : Int32) then some ((-5 : Int32), g) else (if (0 : Int32) ≤ zv_4 then ((f_X3_setData zv_4 (0 : Int32) x2 g).bind (fun zv_8 => ((f_X3_setData zv_4 (1 : Int32) x4 zv_8).bind (fun zv_9 => ((f_X3_setData zv_4 (2 : Int32) x6 zv_9).bind (fun zv_10 => (chk x1 12 (((f_X3_setPlace x1 (R_size zv_10 x1.toNatClampNeg) zv_4 zv_10).bind (fun zv_12 => (chk x1 12 (((f_X3_setSize x1 ((R_size zv_12 x1.toNatClampNeg) + (1 : Int32)) zv_12).bind (fun zv_14 => (if (R_down zv_14) = (0 : Int32) then (chk x1 12 (some ((R_size zv_14 x1.toNatClampNeg), zv_14))) else some ((-2 : Int32), zv_14)))))))))))))))) else some ((-5 : Int32), g))))))) else some ((-2 : Int32), g)))))
set_option maxHeartbeats 4000000 in
set_option maxRecDepth 100000 in
theorem c_X3_append (l : Launch) (D : va_G) (cI cJ : ClassId) (h0 qk qs qp qw qr qo qn sz : Nat) (g : RS) (x1 : Int32) (x2 : Int64) (x4 : Int64) (x6 : Int64) (r : Int32) (g1 : RS) (hf : f_X3_append x1 x2 x4 x6 g = some (r, g1)) : Met l yX3_append wsX3_append { frames := 2, cells := 0, slots := 0, locals := 47 } (gPc D (gT cI cJ) sz (wR h0 qk qs qp qw qr qo qn cI cJ g) [.ref h0, .int x1, .long x2, .long x4, .long x6]) (gQi D (gT cI cJ) (va_A (wR h0 qk qs qp qw qr qo qn cI cJ g) sz) r (wR h0 qk qs qp qw qr qo qn cI cJ g1)) 0 0 (va_A (wR h0 qk qs qp qw qr qo qn cI cJ g) sz) := by
  refine gMet (cc := cX3_append) (maxL := 9) (ret := (some .int)) (by decide) rfl ?_ (Nat.le_of_ble_eq_true rfl)
  intro p e0 s m below meth c ls B hr hlk hsz hK hG hl
  have hA : ∀ q : Nat, s.heap.size ≤ q → va_A (wR h0 qk qs qp qw qr qo qn cI cJ g) sz q := fun q h => Or.inr (hsz ▸ h)
  have hx := B.1
  have hb := B.2.1
  have hts := B.2.2.2.2
  have hl : lv_has ls 9 [(0, .ref h0), (1, .int x1), (2, .long x2), (4, .long x4), (6, .long x6)] := hl
  generalize va_A (wR h0 qk qs qp qw qr qo qn cI cJ g) sz = A at hA hG ⊢
  have hinX3 : ∀ x ∈ wsX30, x ∈ wsX3_append := by decide +kernel
  have m_13 : Cond.fieldLink RX3 13 "BlockMoverModel" "size" "[I" ∈ wsX3_append := by decide +kernel
  have m_36 : Cond.fieldLink RX3 36 "BlockMoverModel" "down" "Z" ∈ wsX3_append := by decide +kernel
  unfold f_X3_append at hf
  refine lv_aload_n hx hb dX3_append_0 rfl (lv_at hl 0 rfl) ?_
  refine lv_iload_n hx hb dX3_append_1 rfl (lv_at hl 1 rfl) ?_
  refine lv_iconst (v := 2) hx hb dX3_append_2 (by decide) ?_
  obtain ⟨zv_1, hqzv_1, hf⟩ := ob hf
  refine gc_Vi hA hK hl.1 hG B (c_X3_isInode l D cI cJ h0 qk qs qp qw qr qo qn _ g x1 (2 : Int32) _ hqzv_1) (cwV 2 hts gX3_append_X3_isInode rfl rfl rfl (by decide +kernel) ⟨by decide, by decide⟩) 0 rfl rfl rfl rfl rfl (Nat.le_of_ble_eq_true rfl) dX3_append_3 ⟨Nat.zero_le _, Nat.zero_le _⟩ (fun H locs hG => ?_)
  refine lv_if_ne (tgt := 11) hx hb dX3_append_6 (by decide) (fun cq_2 => ?_) (fun cq_2 => ?_)
  · have hf := ifF cq_2 hf
    refine lv_aload_n hx hb dX3_append_11 rfl (lv_at hl 0 rfl) ?_
    refine g_get hK hG B hinX3 0 rfl rfl 5 (by decide) m_36 rfl dX3_append_12 ?_
    refine lv_if_eq (tgt := 21) hx hb dX3_append_15 (by decide) (fun cq_3 => ?_) (fun cq_3 => ?_)
    · have hf := ifT cq_3 hf
      refine lv_aload_n hx hb dX3_append_21 rfl (lv_at hl 0 rfl) ?_
      obtain ⟨zv_4, hqzv_4, hf⟩ := ob hf
      refine gc_Vi hA hK hl.1 hG B (c_X3_leastFree l D cI cJ h0 qk qs qp qw qr qo qn _ g  _ hqzv_4) (cwV 0 hts gX3_append_X3_leastFree rfl rfl rfl (by decide +kernel) ⟨by decide, by decide⟩) 0 rfl rfl rfl rfl rfl (Nat.le_of_ble_eq_true rfl) dX3_append_22 ⟨Nat.zero_le _, Nat.zero_le _⟩ (fun H locs hG => ?_)
      refine lv_istore (lv' := [(8, .int zv_4), (0, .ref h0), (1, .int x1), (2, .long x2), (4, .long x4), (6, .long x6)]) hx hb dX3_append_25 hl (by decide) rfl (fun ls hl => ?_)
      refine lv_aload_n hx hb dX3_append_27 rfl (lv_at hl 1 rfl) ?_
      refine g_get hK hG B hinX3 0 rfl rfl 1 (by decide) m_13 rfl dX3_append_28 ?_
      refine lv_iload_n hx hb dX3_append_31 rfl (lv_at hl 2 rfl) ?_
      obtain ⟨vq_5, hf⟩ := chk_s hf
      refine g_iald hK hG B 2 rfl vq_5 dX3_append_32 ?_
      refine lv_bipush (v := 8) hx hb dX3_append_33 (by decide) ?_
      refine lv_icmp_eq (tgt := 43) hx hb dX3_append_35 (by decide) (fun cq_6 => ?_) (fun cq_6 => ?_)
      · have hf := ifT cq_6 hf
        refine lv_bipush (v := -5) hx hb dX3_append_43 (by decide) ?_
        have hf := Option.some.inj hf
        obtain ⟨e1, e2⟩ := Prod.mk.inj hf
        subst e2
        exact g_iret hr hlk hK hG B rfl e1 dX3_append_45
      · have hf := ifF cq_6 hf
        refine lv_iload hx hb dX3_append_38 (lv_at hl 0 rfl) ?_
        refine lv_if_ge (tgt := 46) hx hb dX3_append_40 (by decide) (fun cq_7 => ?_) (fun cq_7 => ?_)
        · have hf := ifT cq_7 hf
          refine lv_aload_n hx hb dX3_append_46 rfl (lv_at hl 1 rfl) ?_
          refine lv_iload hx hb dX3_append_47 (lv_at hl 0 rfl) ?_
          refine lv_iconst (v := 0) hx hb dX3_append_49 (by decide) ?_
          refine lv_lload_n hx hb dX3_append_50 rfl (lv_at hl 3 rfl) ?_
          obtain ⟨zv_8, hqzv_8, hf⟩ := ob hf
          refine gc_Vv hA hK hl.1 hG B (c_X3_setData l D cI cJ h0 qk qs qp qw qr qo qn _ g zv_4 (0 : Int32) x2 _ hqzv_8) (cwV 3 hts gX3_append_X3_setData rfl rfl rfl (by decide +kernel) ⟨by decide, by decide⟩) 0 rfl rfl rfl rfl rfl (Nat.le_of_ble_eq_true rfl) dX3_append_51 ⟨Nat.zero_le _, Nat.zero_le _⟩ (fun H locs hG => ?_)
          refine lv_aload_n hx hb dX3_append_54 rfl (lv_at hl 1 rfl) ?_
          refine lv_iload hx hb dX3_append_55 (lv_at hl 0 rfl) ?_
          refine lv_iconst (v := 1) hx hb dX3_append_57 (by decide) ?_
          refine lv_lload hx hb dX3_append_58 (lv_at hl 4 rfl) ?_
          obtain ⟨zv_9, hqzv_9, hf⟩ := ob hf
          refine gc_Vv hA hK hl.1 hG B (c_X3_setData l D cI cJ h0 qk qs qp qw qr qo qn _ zv_8 zv_4 (1 : Int32) x4 _ hqzv_9) (cwV 3 hts gX3_append_X3_setData rfl rfl rfl (by decide +kernel) ⟨by decide, by decide⟩) 0 rfl rfl rfl rfl rfl (Nat.le_of_ble_eq_true rfl) dX3_append_60 ⟨Nat.zero_le _, Nat.zero_le _⟩ (fun H locs hG => ?_)
          refine lv_aload_n hx hb dX3_append_63 rfl (lv_at hl 1 rfl) ?_
          refine lv_iload hx hb dX3_append_64 (lv_at hl 0 rfl) ?_
          refine lv_iconst (v := 2) hx hb dX3_append_66 (by decide) ?_
          refine lv_lload hx hb dX3_append_67 (lv_at hl 5 rfl) ?_
          obtain ⟨zv_10, hqzv_10, hf⟩ := ob hf
          refine gc_Vv hA hK hl.1 hG B (c_X3_setData l D cI cJ h0 qk qs qp qw qr qo qn _ zv_9 zv_4 (2 : Int32) x6 _ hqzv_10) (cwV 3 hts gX3_append_X3_setData rfl rfl rfl (by decide +kernel) ⟨by decide, by decide⟩) 0 rfl rfl rfl rfl rfl (Nat.le_of_ble_eq_true rfl) dX3_append_69 ⟨Nat.zero_le _, Nat.zero_le _⟩ (fun H locs hG => ?_)
          refine lv_aload_n hx hb dX3_append_72 rfl (lv_at hl 1 rfl) ?_
          refine lv_iload_n hx hb dX3_append_73 rfl (lv_at hl 2 rfl) ?_
          refine lv_aload_n hx hb dX3_append_74 rfl (lv_at hl 1 rfl) ?_
          refine g_get hK hG B hinX3 0 rfl rfl 1 (by decide) m_13 rfl dX3_append_75 ?_
          refine lv_iload_n hx hb dX3_append_78 rfl (lv_at hl 2 rfl) ?_
          obtain ⟨vq_11, hf⟩ := chk_s hf
          refine g_iald hK hG B 2 rfl vq_11 dX3_append_79 ?_
          refine lv_iload hx hb dX3_append_80 (lv_at hl 0 rfl) ?_
          obtain ⟨zv_12, hqzv_12, hf⟩ := ob hf
          refine gc_Vv hA hK hl.1 hG B (c_X3_setPlace l D cI cJ h0 qk qs qp qw qr qo qn _ zv_10 x1 (R_size zv_10 x1.toNatClampNeg) zv_4 _ hqzv_12) (cwV 3 hts gX3_append_X3_setPlace rfl rfl rfl (by decide +kernel) ⟨by decide, by decide⟩) 0 rfl rfl rfl rfl rfl (Nat.le_of_ble_eq_true rfl) dX3_append_82 ⟨Nat.zero_le _, Nat.zero_le _⟩ (fun H locs hG => ?_)
          refine lv_aload_n hx hb dX3_append_85 rfl (lv_at hl 1 rfl) ?_
          refine lv_iload_n hx hb dX3_append_86 rfl (lv_at hl 2 rfl) ?_
          refine lv_aload_n hx hb dX3_append_87 rfl (lv_at hl 1 rfl) ?_
          refine g_get hK hG B hinX3 0 rfl rfl 1 (by decide) m_13 rfl dX3_append_88 ?_
          refine lv_iload_n hx hb dX3_append_91 rfl (lv_at hl 2 rfl) ?_
          obtain ⟨vq_13, hf⟩ := chk_s hf
          refine g_iald hK hG B 2 rfl vq_13 dX3_append_92 ?_
          refine lv_iconst (v := 1) hx hb dX3_append_93 (by decide) ?_
          refine lv_iadd hx hb dX3_append_94 ?_
          obtain ⟨zv_14, hqzv_14, hf⟩ := ob hf
          refine gc_Vv hA hK hl.1 hG B (c_X3_setSize l D cI cJ h0 qk qs qp qw qr qo qn _ zv_12 x1 ((R_size zv_12 x1.toNatClampNeg) + (1 : Int32)) _ hqzv_14) (cwV 2 hts gX3_append_X3_setSize rfl rfl rfl (by decide +kernel) ⟨by decide, by decide⟩) 0 rfl rfl rfl rfl rfl (Nat.le_of_ble_eq_true rfl) dX3_append_95 ⟨Nat.zero_le _, Nat.zero_le _⟩ (fun H locs hG => ?_)
          refine lv_aload_n hx hb dX3_append_98 rfl (lv_at hl 1 rfl) ?_
          refine g_get hK hG B hinX3 0 rfl rfl 5 (by decide) m_36 rfl dX3_append_99 ?_
          refine lv_if_eq (tgt := 110) hx hb dX3_append_102 (by decide) (fun cq_15 => ?_) (fun cq_15 => ?_)
          · have hf := ifT cq_15 hf
            refine lv_aload_n hx hb dX3_append_110 rfl (lv_at hl 1 rfl) ?_
            refine g_get hK hG B hinX3 0 rfl rfl 1 (by decide) m_13 rfl dX3_append_111 ?_
            refine lv_iload_n hx hb dX3_append_114 rfl (lv_at hl 2 rfl) ?_
            obtain ⟨vq_16, hf⟩ := chk_s hf
            refine g_iald hK hG B 2 rfl vq_16 dX3_append_115 ?_
            have hf := Option.some.inj hf
            obtain ⟨e1, e2⟩ := Prod.mk.inj hf
            subst e2
            exact g_iret hr hlk hK hG B rfl e1 dX3_append_116
          · have hf := ifF cq_15 hf
            refine lv_bipush (v := -2) hx hb dX3_append_105 (by decide) ?_
            refine lv_goto (tgt := 116) hx hb dX3_append_107 (by decide) ?_
            have hf := Option.some.inj hf
            obtain ⟨e1, e2⟩ := Prod.mk.inj hf
            subst e2
            exact g_iret hr hlk hK hG B rfl e1 dX3_append_116
        · have hf := ifF cq_7 hf
          refine lv_bipush (v := -5) hx hb dX3_append_43 (by decide) ?_
          have hf := Option.some.inj hf
          obtain ⟨e1, e2⟩ := Prod.mk.inj hf
          subst e2
          exact g_iret hr hlk hK hG B rfl e1 dX3_append_45
    · have hf := ifF cq_3 hf
      refine lv_bipush (v := -2) hx hb dX3_append_18 (by decide) ?_
      have hf := Option.some.inj hf
      obtain ⟨e1, e2⟩ := Prod.mk.inj hf
      subst e2
      exact g_iret hr hlk hK hG B rfl e1 dX3_append_20
  · have hf := ifT cq_2 hf
    refine lv_iconst (v := -1) hx hb dX3_append_9 (by decide) ?_
    have hf := Option.some.inj hf
    obtain ⟨e1, e2⟩ := Prod.mk.inj hf
    subst e2
    exact g_iret hr hlk hK hG B rfl e1 dX3_append_10
