def f_X3_step  (g : RS) : Option (Int32 × RS) := (if (R_down g) = (0 : Int32) then ((f_X3_look  g).bind (fun zv_2 => (if (1 : Int32) ≤ zv_2.1 then ((f_X3_move (0 : Int32) zv_2.2).bind (fun zv_4 => (if (R_down zv_4) = (0 : Int32) then some ((1 : Int32), zv_4) else some ((-2 : Int32), zv_4)))) else some (zv_2.1, zv_2.2)))) else some ((-2 : Int32), g))
set_option maxHeartbeats 4000000 in
set_option maxRecDepth 100000 in
theorem c_X3_step (l : Launch) (D : va_G) (cI cJ : ClassId) (h0 qk qs qp qw qr qo qn sz : Nat) (g : RS)  (r : Int32) (g1 : RS) (hf : f_X3_step  g = some (r, g1)) : Met l yX3_step wsX3_step { frames := 4, cells := 0, slots := 0, locals := 92 } (gPc D (gT cI cJ) sz (wR h0 qk qs qp qw qr qo qn cI cJ g) [.ref h0]) (gQi D (gT cI cJ) (va_A (wR h0 qk qs qp qw qr qo qn cI cJ g) sz) r (wR h0 qk qs qp qw qr qo qn cI cJ g1)) 0 0 (va_A (wR h0 qk qs qp qw qr qo qn cI cJ g) sz) := by
  refine gMet (cc := cX3_step) (maxL := 2) (ret := (some .int)) (by decide) rfl ?_ (Nat.le_of_ble_eq_true rfl)
  intro p e0 s m below meth c ls B hr hlk hsz hK hG hl
  have hA : ∀ q : Nat, s.heap.size ≤ q → va_A (wR h0 qk qs qp qw qr qo qn cI cJ g) sz q := fun q h => Or.inr (hsz ▸ h)
  have hx := B.1
  have hb := B.2.1
  have hts := B.2.2.2.2
  have hl : lv_has ls 2 [(0, .ref h0)] := hl
  generalize va_A (wR h0 qk qs qp qw qr qo qn cI cJ g) sz = A at hA hG ⊢
  have hinX3 : ∀ x ∈ wsX30, x ∈ wsX3_step := by decide +kernel
  have m_36 : Cond.fieldLink RX3 36 "BlockMoverModel" "down" "Z" ∈ wsX3_step := by decide +kernel
  unfold f_X3_step at hf
  refine lv_aload_n hx hb dX3_step_0 rfl (lv_at hl 0 rfl) ?_
  refine g_get hK hG B hinX3 0 rfl rfl 5 (by decide) m_36 rfl dX3_step_1 ?_
  refine lv_if_eq (tgt := 10) hx hb dX3_step_4 (by decide) (fun cq_1 => ?_) (fun cq_1 => ?_)
  · have hf := ifT cq_1 hf
    refine lv_aload_n hx hb dX3_step_10 rfl (lv_at hl 0 rfl) ?_
    obtain ⟨zv_2, hqzv_2, hf⟩ := ob hf
    refine gc_Vi hA hK hl.1 hG B (c_X3_look l D cI cJ h0 qk qs qp qw qr qo qn _ g  _ _ hqzv_2) (cwV 0 hts gX3_step_X3_look rfl rfl rfl (by decide +kernel) ⟨by decide, by decide⟩) 0 rfl rfl rfl rfl rfl (Nat.le_of_ble_eq_true rfl) dX3_step_11 ⟨Nat.zero_le _, Nat.zero_le _⟩ (fun H locs hG => ?_)
    refine lv_istore_n (lv' := [(1, .int zv_2.1), (0, .ref h0)]) hx hb dX3_step_14 rfl hl (by decide) rfl (fun ls hl => ?_)
    refine lv_iload_n hx hb dX3_step_15 rfl (lv_at hl 0 rfl) ?_
    refine lv_iconst (v := 1) hx hb dX3_step_16 (by decide) ?_
    refine lv_icmp_ge (tgt := 22) hx hb dX3_step_17 (by decide) (fun cq_3 => ?_) (fun cq_3 => ?_)
    · have hf := ifT cq_3 hf
      refine lv_aload_n hx hb dX3_step_22 rfl (lv_at hl 1 rfl) ?_
      refine lv_iconst (v := 0) hx hb dX3_step_23 (by decide) ?_
      obtain ⟨zv_4, hqzv_4, hf⟩ := ob hf
      refine gc_Vv hA hK hl.1 hG B (c_X3_move l D cI cJ h0 qk qs qp qw qr qo qn _ zv_2.2 (0 : Int32) _ hqzv_4) (cwV 1 hts gX3_step_X3_move rfl rfl rfl (by decide +kernel) ⟨by decide, by decide⟩) 0 rfl rfl rfl rfl rfl (Nat.le_of_ble_eq_true rfl) dX3_step_24 ⟨Nat.zero_le _, Nat.zero_le _⟩ (fun H locs hG => ?_)
      refine lv_aload_n hx hb dX3_step_27 rfl (lv_at hl 1 rfl) ?_
      refine g_get hK hG B hinX3 0 rfl rfl 5 (by decide) m_36 rfl dX3_step_28 ?_
      refine lv_if_eq (tgt := 39) hx hb dX3_step_31 (by decide) (fun cq_5 => ?_) (fun cq_5 => ?_)
      · have hf := ifT cq_5 hf
        refine lv_iconst (v := 1) hx hb dX3_step_39 (by decide) ?_
        have hf := Option.some.inj hf
        obtain ⟨e1, e2⟩ := Prod.mk.inj hf
        subst e2
        exact g_iret hr hlk hK hG B rfl e1 dX3_step_40
      · have hf := ifF cq_5 hf
        refine lv_bipush (v := -2) hx hb dX3_step_34 (by decide) ?_
        refine lv_goto (tgt := 40) hx hb dX3_step_36 (by decide) ?_
        have hf := Option.some.inj hf
        obtain ⟨e1, e2⟩ := Prod.mk.inj hf
        subst e2
        exact g_iret hr hlk hK hG B rfl e1 dX3_step_40
    · have hf := ifF cq_3 hf
      refine lv_iload_n hx hb dX3_step_20 rfl (lv_at hl 0 rfl) ?_
      have hf := Option.some.inj hf
      obtain ⟨e1, e2⟩ := Prod.mk.inj hf
      subst e2
      exact g_iret hr hlk hK hG B rfl e1 dX3_step_21
  · have hf := ifF cq_1 hf
    refine lv_bipush (v := -2) hx hb dX3_step_7 (by decide) ?_
    have hf := Option.some.inj hf
    obtain ⟨e1, e2⟩ := Prod.mk.inj hf
    subst e2
    exact g_iret hr hlk hK hG B rfl e1 dX3_step_9
def b_X3_stands_2 (y1_2 : Int32) (y2_2 : Int32) (g : RS) (y3_2 : Int32) : Option (((Int32) ⊕ (Unit)) ⊕ (Int32)) := (if y2_2 ≤ y3_2 then some (.inl (.inr ())) else (chk (y3_2 / (8 : Int32)) 12 ((if (R_kind g (y3_2 / (8 : Int32)).toNatClampNeg) = (1 : Int32) then (chk y3_2 96 ((if (R_pl g y3_2.toNatClampNeg) ≤ (0 : Int32) then some (.inr (y3_2 + (1 : Int32))) else (chk y3_2 96 ((if ((R_pl g y3_2.toNatClampNeg) / (100 : Int32)) = y1_2 then some (.inl (.inl (1 : Int32))) else some (.inr (y3_2 + (1 : Int32))))))))) else some (.inr (y3_2 + (1 : Int32)))))))
def f_X3_stands (x1 : Int32) (x2 : Int32) (g : RS) : Option Int32 := ((itl (fun a : Int32 => b_X3_stands_2 x1 x2 g a) 300 (0 : Int32)).bind (fun zv_8 => Sum.elim (fun v => some v) (fun ev_8 => some (0 : Int32)) zv_8))
set_option maxHeartbeats 4000000 in
set_option maxRecDepth 100000 in
theorem c_X3_stands (l : Launch) (D : va_G) (cI cJ : ClassId) (h0 qk qs qp qw qr qo qn sz : Nat) (g : RS) (x1 : Int32) (x2 : Int32) (r : Int32) (hf : f_X3_stands x1 x2 g = some r) : Met l yX3_stands wsX3_stands { frames := 0, cells := 0, slots := 0, locals := 0 } (gPc D (gT cI cJ) sz (wR h0 qk qs qp qw qr qo qn cI cJ g) [.ref h0, .int x1, .int x2]) (gQi D (gT cI cJ) (va_A (wR h0 qk qs qp qw qr qo qn cI cJ g) sz) r (wR h0 qk qs qp qw qr qo qn cI cJ g)) 0 0 (va_A (wR h0 qk qs qp qw qr qo qn cI cJ g) sz) := by
  refine gMet (cc := cX3_stands) (maxL := 4) (ret := (some .boolean)) (by decide) rfl ?_ (Nat.le_of_ble_eq_true rfl)
  intro p e0 s m below meth c ls B hr hlk hsz hK hG hl
  have hA : ∀ q : Nat, s.heap.size ≤ q → va_A (wR h0 qk qs qp qw qr qo qn cI cJ g) sz q := fun q h => Or.inr (hsz ▸ h)
  have hx := B.1
  have hb := B.2.1
  have hts := B.2.2.2.2
  have hl : lv_has ls 4 [(0, .ref h0), (1, .int x1), (2, .int x2)] := hl
  generalize va_A (wR h0 qk qs qp qw qr qo qn cI cJ g) sz = A at hA hG ⊢
  have hinX3 : ∀ x ∈ wsX30, x ∈ wsX3_stands := by decide +kernel
  have m_7 : Cond.fieldLink RX3 7 "BlockMoverModel" "kind" "[I" ∈ wsX3_stands := by decide +kernel
  have m_16 : Cond.fieldLink RX3 16 "BlockMoverModel" "places" "[I" ∈ wsX3_stands := by decide +kernel
  have L2 : ∀ (res : ((Int32) ⊕ (Unit))) (y1_2 : Int32) (y2_2 : Int32), (∀ v, res = .inl v → v = r) → (∀ (H1 : Heap) (locs1 : List Loc) (ls1 : Array Slot) (e : Unit), res = .inr e → gG D A s.heap (wR h0 qk qs qp qw qr qo qn cI cJ g) H1 locs1 → lv_has ls1 4 [] → W p l e0 { frames := 0, cells := 0, slots := 0, locals := 0 } s m ([.ref h0, .int x1, .int x2] : List Value).toArray below meth c H1 locs1 0 0 (MQ below (gQi D (gT cI cJ) A r (wR h0 qk qs qp qw qr qo qn cI cJ g)) ([.ref h0, .int x1, .int x2] : List Value).toArray s 0 0 A) (F0 m 50 ls1 [])) → ∀ (n : Nat) (y3_2 : Int32) (H : Heap) (locs : List Loc) (ls : Array Slot), gG D A s.heap (wR h0 qk qs qp qw qr qo qn cI cJ g) H locs → lv_has ls 4 [(0, .ref h0), (1, .int y1_2), (2, .int y2_2), (3, .int y3_2)] → itl (fun a : Int32 => b_X3_stands_2 y1_2 y2_2 g a) n y3_2 = some res → W p l e0 { frames := 0, cells := 0, slots := 0, locals := 0 } s m ([.ref h0, .int x1, .int x2] : List Value).toArray below meth c H locs 0 0 (MQ below (gQi D (gT cI cJ) A r (wR h0 qk qs qp qw qr qo qn cI cJ g)) ([.ref h0, .int x1, .int x2] : List Value).toArray s 0 0 A) (F0 m 2 ls []) := by
    intro res y1_2 y2_2 hKr2 hKe2 n
    induction n with
    | zero => exact fun y3_2 H locs ls hG hl hf => (itl_0 hf).elim
    | succ n ih =>
      intro y3_2 H locs ls hG hl hf
      obtain ⟨o, hf, ho2, hn2⟩ := itl_s hf
      have hf : b_X3_stands_2 y1_2 y2_2 g y3_2 = some o := hf
      unfold b_X3_stands_2 at hf
      refine lv_iload_n hx hb dX3_stands_2 rfl (lv_at hl 3 rfl) ?_
      refine lv_iload_n hx hb dX3_stands_3 rfl (lv_at hl 2 rfl) ?_
      refine lv_icmp_ge (tgt := 50) hx hb dX3_stands_4 (by decide) (fun cq_1 => ?_) (fun cq_1 => ?_)
      · have hf := ifT cq_1 hf
        have hres := ho2 _ (Option.some.inj hf).symm
        exact hKe2 _ _ _ () hres.symm hG (lv_sub hl [] rfl)
      · have hf := ifF cq_1 hf
        refine lv_aload_n hx hb dX3_stands_7 rfl (lv_at hl 0 rfl) ?_
        refine g_get hK hG B hinX3 0 rfl rfl 0 (by decide) m_7 rfl dX3_stands_8 ?_
        refine lv_iload_n hx hb dX3_stands_11 rfl (lv_at hl 3 rfl) ?_
        refine lv_bipush (v := 8) hx hb dX3_stands_12 (by decide) ?_
        refine lv_idiv hx hb dX3_stands_14 (by decide) ?_
        obtain ⟨vq_2, hf⟩ := chk_s hf
        refine g_iald hK hG B 1 rfl vq_2 dX3_stands_15 ?_
        refine lv_iconst (v := 1) hx hb dX3_stands_16 (by decide) ?_
        refine lv_icmp_ne (tgt := 44) hx hb dX3_stands_17 (by decide) (fun cq_3 => ?_) (fun cq_3 => ?_)
        · have hf := ifF cq_3 hf
          refine lv_iinc (v := (y3_2 + (1 : Int32))) (lv' := [(3, .int (y3_2 + (1 : Int32))), (0, .ref h0), (1, .int y1_2), (2, .int y2_2)]) hx hb dX3_stands_44 hl (k := 3) rfl rfl (by decide) rfl (fun ls hl => ?_)
          refine lv_goto (tgt := 2) hx hb dX3_stands_47 (by decide) ?_
          have hn := hn2 _ (Option.some.inj hf).symm
          exact ih (y3_2 + (1 : Int32)) _ _ _ hG (lv_sub hl [1, 2, 3, 0] rfl) hn
        · have hf := ifT cq_3 hf
          refine lv_aload_n hx hb dX3_stands_20 rfl (lv_at hl 0 rfl) ?_
          refine g_get hK hG B hinX3 0 rfl rfl 2 (by decide) m_16 rfl dX3_stands_21 ?_
          refine lv_iload_n hx hb dX3_stands_24 rfl (lv_at hl 3 rfl) ?_
          obtain ⟨vq_4, hf⟩ := chk_s hf
          refine g_iald hK hG B 3 rfl vq_4 dX3_stands_25 ?_
          refine lv_if_le (tgt := 44) hx hb dX3_stands_26 (by decide) (fun cq_5 => ?_) (fun cq_5 => ?_)
          · have hf := ifT cq_5 hf
            refine lv_iinc (v := (y3_2 + (1 : Int32))) (lv' := [(3, .int (y3_2 + (1 : Int32))), (0, .ref h0), (1, .int y1_2), (2, .int y2_2)]) hx hb dX3_stands_44 hl (k := 3) rfl rfl (by decide) rfl (fun ls hl => ?_)
            refine lv_goto (tgt := 2) hx hb dX3_stands_47 (by decide) ?_
            have hn := hn2 _ (Option.some.inj hf).symm
            exact ih (y3_2 + (1 : Int32)) _ _ _ hG (lv_sub hl [1, 2, 3, 0] rfl) hn
          · have hf := ifF cq_5 hf
            refine lv_aload_n hx hb dX3_stands_29 rfl (lv_at hl 0 rfl) ?_
            refine g_get hK hG B hinX3 0 rfl rfl 2 (by decide) m_16 rfl dX3_stands_30 ?_
            refine lv_iload_n hx hb dX3_stands_33 rfl (lv_at hl 3 rfl) ?_
            obtain ⟨vq_6, hf⟩ := chk_s hf
            refine g_iald hK hG B 3 rfl vq_6 dX3_stands_34 ?_
            refine lv_bipush (v := 100) hx hb dX3_stands_35 (by decide) ?_
            refine lv_idiv hx hb dX3_stands_37 (by decide) ?_
            refine lv_iload_n hx hb dX3_stands_38 rfl (lv_at hl 1 rfl) ?_
            refine lv_icmp_ne (tgt := 44) hx hb dX3_stands_39 (by decide) (fun cq_7 => ?_) (fun cq_7 => ?_)
            · have hf := ifF cq_7 hf
              refine lv_iinc (v := (y3_2 + (1 : Int32))) (lv' := [(3, .int (y3_2 + (1 : Int32))), (0, .ref h0), (1, .int y1_2), (2, .int y2_2)]) hx hb dX3_stands_44 hl (k := 3) rfl rfl (by decide) rfl (fun ls hl => ?_)
              refine lv_goto (tgt := 2) hx hb dX3_stands_47 (by decide) ?_
              have hn := hn2 _ (Option.some.inj hf).symm
              exact ih (y3_2 + (1 : Int32)) _ _ _ hG (lv_sub hl [1, 2, 3, 0] rfl) hn
            · have hf := ifT cq_7 hf
              refine lv_iconst (v := 1) hx hb dX3_stands_42 (by decide) ?_
              have hf := hKr2 _ (ho2 _ (Option.some.inj hf).symm).symm
              exact g_iret hr hlk hK hG B rfl hf dX3_stands_43
  unfold f_X3_stands at hf
  refine lv_iconst (v := 0) hx hb dX3_stands_0 (by decide) ?_
  refine lv_istore_n (lv' := [(3, .int (0 : Int32)), (0, .ref h0), (1, .int x1), (2, .int x2)]) hx hb dX3_stands_1 rfl hl (by decide) rfl (fun ls hl => ?_)
  obtain ⟨zv_8, hizv_8, hf⟩ := ob hf
  refine L2 zv_8 x1 x2 (fun v hres => by subst hres; have hf := se_l hf; exact Option.some.inj hf) (fun H locs ls ev_8 hres hG hl => ?_) 300 (0 : Int32) _ _ _ hG (lv_sub hl [1, 2, 3, 0] rfl) hizv_8
  have hres := hres.symm
  subst hres
  have hf := se_r hf
  refine lv_iconst (v := 0) hx hb dX3_stands_50 (by decide) ?_
  have hf := Option.some.inj hf
  exact g_iret hr hlk hK hG B rfl hf dX3_stands_51
def b_X3_restart_53 (y1_53 : Int32) (y2_53 : Int32) (y3_53 : Int32) (g53 : RS) : Option ((RS) ⊕ (Int32 × RS)) := (if (96 : Int32) ≤ y3_53 then some (.inl g53) else (if (R_down g53) = (0 : Int32) then (chk (y3_53 / (8 : Int32)) 12 ((if (R_kind g53 (y3_53 / (8 : Int32)).toNatClampNeg) = (1 : Int32) then (chk y3_53 96 ((if (R_pl g53 y3_53.toNatClampNeg) ≤ (0 : Int32) then some (.inr ((y3_53 + (1 : Int32)), g53)) else (chk y3_53 96 ((chk ((R_pl g53 y3_53.toNatClampNeg) / (100 : Int32)) 12 ((if (R_kind g53 ((R_pl g53 y3_53.toNatClampNeg) / (100 : Int32)).toNatClampNeg) = (0 : Int32) then ((f_X3_setPlace (y3_53 / (8 : Int32)) (y3_53 - y3_53 / (8 : Int32) * (8 : Int32)) (0 : Int32) g53).bind (fun zv_14 => some (.inr ((y3_53 + (1 : Int32)), zv_14)))) else (chk y3_53 96 (((f_X3_stands ((R_pl g53 y3_53.toNatClampNeg) / (100 : Int32)) y3_53 g53).bind (fun zv_16 => (if zv_16 = (0 : Int32) then some (.inr ((y3_53 + (1 : Int32)), g53)) else ((f_X3_setPlace (y3_53 / (8 : Int32)) (y3_53 - y3_53 / (8 : Int32) * (8 : Int32)) (0 : Int32) g53).bind (fun zv_18 => some (.inr ((y3_53 + (1 : Int32)), zv_18))))))))))))))))) else some (.inr ((y3_53 + (1 : Int32)), g53))))) else some (.inl g53)))
def b_X3_restart_143 (y1_143 : Int32) (y2_143 : Int32) (y3_143 : Int32) (g143 : RS) : Option ((RS) ⊕ (Int32 × RS)) := (if (12 : Int32) ≤ y3_143 then some (.inl g143) else (if (R_down g143) = (0 : Int32) then (chk y3_143 12 ((if (R_kind g143 y3_143.toNatClampNeg) = (0 : Int32) then some (.inr ((y3_143 + (1 : Int32)), g143)) else ((f_X3_stands y3_143 (96 : Int32) g143).bind (fun zv_24 => (if zv_24 = (0 : Int32) then ((f_X3_setKind y3_143 (0 : Int32) g143).bind (fun zv_26 => some (.inr ((y3_143 + (1 : Int32)), zv_26)))) else some (.inr ((y3_143 + (1 : Int32)), g143)))))))) else some (.inl g143)))
def b_X3_restart_31 (y1_31 : Int32) (y2_31 : Int32) (g31 : RS) : Option ((RS) ⊕ (Int32 × RS)) := (if y2_31 = (R_wr g31) then some (.inl g31) else (if (R_down g31) = (0 : Int32) then ((itl (fun a : Int32 × RS => b_X3_restart_53 y1_31 (R_wr g31) a.1 a.2) 300 ((0 : Int32), g31)).bind (fun ev_19 => ((itl (fun a : Int32 × RS => b_X3_restart_143 y1_31 (R_wr g31) a.1 a.2) 300 ((1 : Int32), ev_19)).bind (fun ev_27 => some (.inr ((R_wr g31), ev_27)))))) else some (.inl g31)))
def f_X3_restart  (g : RS) : Option (Int32 × RS) := (chk (0 : Int32) 4 ((if (R_rec (sR_down (0 : Int32) g) (0 : Int32).toNatClampNeg) ≤ (0 : Int32) then ((itl (fun a : Int32 × RS => b_X3_restart_31 (R_wr g) a.1 a.2) 300 ((-1 : Int32), (sR_down (0 : Int32) g))).bind (fun ev_28 => (if (R_down ev_28) = (0 : Int32) then some (((R_wr ev_28) - (R_wr g)), ev_28) else some ((-2 : Int32), ev_28)))) else (chk (0 : Int32) 4 (((f_X3_move (R_rec (sR_down (0 : Int32) g) (0 : Int32).toNatClampNeg) (sR_down (0 : Int32) g)).bind (fun zv_31 => ((itl (fun a : Int32 × RS => b_X3_restart_31 (R_wr g) a.1 a.2) 300 ((-1 : Int32), zv_31)).bind (fun ev_32 => (if (R_down ev_32) = (0 : Int32) then some (((R_wr ev_32) - (R_wr g)), ev_32) else some ((-2 : Int32), ev_32)))))))))))
set_option maxHeartbeats 4000000 in
set_option maxRecDepth 100000 in
theorem c_X3_restart (l : Launch) (D : va_G) (cI cJ : ClassId) (h0 qk qs qp qw qr qo qn sz : Nat) (g : RS)  (r : Int32) (g1 : RS) (hf : f_X3_restart  g = some (r, g1)) : Met l yX3_restart wsX3_restart { frames := 3, cells := 0, slots := 0, locals := 70 } (gPc D (gT cI cJ) sz (wR h0 qk qs qp qw qr qo qn cI cJ g) [.ref h0]) (gQi D (gT cI cJ) (va_A (wR h0 qk qs qp qw qr qo qn cI cJ g) sz) r (wR h0 qk qs qp qw qr qo qn cI cJ g1)) 0 0 (va_A (wR h0 qk qs qp qw qr qo qn cI cJ g) sz) := by
  refine gMet (cc := cX3_restart) (maxL := 4) (ret := (some .int)) (by decide) rfl ?_ (Nat.le_of_ble_eq_true rfl)
  intro p e0 s m below meth c ls B hr hlk hsz hK hG hl
  have hA : ∀ q : Nat, s.heap.size ≤ q → va_A (wR h0 qk qs qp qw qr qo qn cI cJ g) sz q := fun q h => Or.inr (hsz ▸ h)
  have hx := B.1
  have hb := B.2.1
  have hts := B.2.2.2.2
  have hl : lv_has ls 4 [(0, .ref h0)] := hl
  generalize va_A (wR h0 qk qs qp qw qr qo qn cI cJ g) sz = A at hA hG ⊢
  have hinX3 : ∀ x ∈ wsX30, x ∈ wsX3_restart := by decide +kernel
  have m_7 : Cond.fieldLink RX3 7 "BlockMoverModel" "kind" "[I" ∈ wsX3_restart := by decide +kernel
  have m_16 : Cond.fieldLink RX3 16 "BlockMoverModel" "places" "[I" ∈ wsX3_restart := by decide +kernel
  have m_23 : Cond.fieldLink RX3 23 "BlockMoverModel" "rec" "[I" ∈ wsX3_restart := by decide +kernel
  have m_36 : Cond.fieldLink RX3 36 "BlockMoverModel" "down" "Z" ∈ wsX3_restart := by decide +kernel
  have m_40 : Cond.fieldLink RX3 40 "BlockMoverModel" "writes" "I" ∈ wsX3_restart := by decide +kernel
  have L53 : ∀ (res : (RS)) (y1_53 : Int32) (y2_53 : Int32), (∀ (H1 : Heap) (locs1 : List Loc) (ls1 : Array Slot) (e : RS), res = e → gG D A s.heap (wR h0 qk qs qp qw qr qo qn cI cJ e) H1 locs1 → lv_has ls1 4 [(0, .ref h0), (1, .int y1_53), (2, .int y2_53)] → W p l e0 { frames := 3, cells := 0, slots := 0, locals := 70 } s m ([.ref h0] : List Value).toArray below meth c H1 locs1 0 0 (MQ below (gQi D (gT cI cJ) A r (wR h0 qk qs qp qw qr qo qn cI cJ g1)) ([.ref h0] : List Value).toArray s 0 0 A) (F0 m 141 ls1 [])) → ∀ (n : Nat) (y3_53 : Int32) (g53 : RS) (H : Heap) (locs : List Loc) (ls : Array Slot), gG D A s.heap (wR h0 qk qs qp qw qr qo qn cI cJ g53) H locs → lv_has ls 4 [(0, .ref h0), (1, .int y1_53), (2, .int y2_53), (3, .int y3_53)] → itl (fun a : Int32 × RS => b_X3_restart_53 y1_53 y2_53 a.1 a.2) n (y3_53, g53) = some res → W p l e0 { frames := 3, cells := 0, slots := 0, locals := 70 } s m ([.ref h0] : List Value).toArray below meth c H locs 0 0 (MQ below (gQi D (gT cI cJ) A r (wR h0 qk qs qp qw qr qo qn cI cJ g1)) ([.ref h0] : List Value).toArray s 0 0 A) (F0 m 53 ls []) := by
    intro res y1_53 y2_53 hKe53 n
    induction n with
    | zero => exact fun y3_53 g53 H locs ls hG hl hf => (itl_0 hf).elim
    | succ n ih =>
      intro y3_53 g53 H locs ls hG hl hf
      obtain ⟨o, hf, ho53, hn53⟩ := itl_s hf
      have hf : b_X3_restart_53 y1_53 y2_53 y3_53 g53 = some o := hf
      unfold b_X3_restart_53 at hf
      refine lv_iload_n hx hb dX3_restart_53 rfl (lv_at hl 3 rfl) ?_
      refine lv_bipush (v := 96) hx hb dX3_restart_54 (by decide) ?_
      refine lv_icmp_ge (tgt := 141) hx hb dX3_restart_56 (by decide) (fun cq_5 => ?_) (fun cq_5 => ?_)
      · have hf := ifT cq_5 hf
        have hres := ho53 _ (Option.some.inj hf).symm
        exact hKe53 _ _ _ g53 hres.symm hG (lv_sub hl [0, 1, 2] rfl)
      · have hf := ifF cq_5 hf
        refine lv_aload_n hx hb dX3_restart_59 rfl (lv_at hl 0 rfl) ?_
        refine g_get hK hG B hinX3 0 rfl rfl 5 (by decide) m_36 rfl dX3_restart_60 ?_
        refine lv_if_ne (tgt := 141) hx hb dX3_restart_63 (by decide) (fun cq_6 => ?_) (fun cq_6 => ?_)
        · have hf := ifF cq_6 hf
          have hres := ho53 _ (Option.some.inj hf).symm
          exact hKe53 _ _ _ g53 hres.symm hG (lv_sub hl [0, 1, 2] rfl)
        · have hf := ifT cq_6 hf
          refine lv_aload_n hx hb dX3_restart_66 rfl (lv_at hl 0 rfl) ?_
          refine g_get hK hG B hinX3 0 rfl rfl 0 (by decide) m_7 rfl dX3_restart_67 ?_
          refine lv_iload_n hx hb dX3_restart_70 rfl (lv_at hl 3 rfl) ?_
          refine lv_bipush (v := 8) hx hb dX3_restart_71 (by decide) ?_
          refine lv_idiv hx hb dX3_restart_73 (by decide) ?_
          obtain ⟨vq_7, hf⟩ := chk_s hf
          refine g_iald hK hG B 1 rfl vq_7 dX3_restart_74 ?_
          refine lv_iconst (v := 1) hx hb dX3_restart_75 (by decide) ?_
          refine lv_icmp_ne (tgt := 135) hx hb dX3_restart_76 (by decide) (fun cq_8 => ?_) (fun cq_8 => ?_)
          · have hf := ifF cq_8 hf
            refine lv_iinc (v := (y3_53 + (1 : Int32))) (lv' := [(3, .int (y3_53 + (1 : Int32))), (0, .ref h0), (1, .int y1_53), (2, .int y2_53)]) hx hb dX3_restart_135 hl (k := 3) rfl rfl (by decide) rfl (fun ls hl => ?_)
            refine lv_goto (tgt := 53) hx hb dX3_restart_138 (by decide) ?_
            have hn := hn53 _ (Option.some.inj hf).symm
            exact ih (y3_53 + (1 : Int32)) g53 _ _ _ hG (lv_sub hl [1, 2, 3, 0] rfl) hn
          · have hf := ifT cq_8 hf
            refine lv_aload_n hx hb dX3_restart_79 rfl (lv_at hl 0 rfl) ?_
            refine g_get hK hG B hinX3 0 rfl rfl 2 (by decide) m_16 rfl dX3_restart_80 ?_
            refine lv_iload_n hx hb dX3_restart_83 rfl (lv_at hl 3 rfl) ?_
            obtain ⟨vq_9, hf⟩ := chk_s hf
            refine g_iald hK hG B 3 rfl vq_9 dX3_restart_84 ?_
            refine lv_if_le (tgt := 135) hx hb dX3_restart_85 (by decide) (fun cq_10 => ?_) (fun cq_10 => ?_)
            · have hf := ifT cq_10 hf
              refine lv_iinc (v := (y3_53 + (1 : Int32))) (lv' := [(3, .int (y3_53 + (1 : Int32))), (0, .ref h0), (1, .int y1_53), (2, .int y2_53)]) hx hb dX3_restart_135 hl (k := 3) rfl rfl (by decide) rfl (fun ls hl => ?_)
              refine lv_goto (tgt := 53) hx hb dX3_restart_138 (by decide) ?_
              have hn := hn53 _ (Option.some.inj hf).symm
              exact ih (y3_53 + (1 : Int32)) g53 _ _ _ hG (lv_sub hl [1, 2, 3, 0] rfl) hn
            · have hf := ifF cq_10 hf
              refine lv_aload_n hx hb dX3_restart_88 rfl (lv_at hl 0 rfl) ?_
              refine g_get hK hG B hinX3 0 rfl rfl 0 (by decide) m_7 rfl dX3_restart_89 ?_
              refine lv_aload_n hx hb dX3_restart_92 rfl (lv_at hl 0 rfl) ?_
              refine g_get hK hG B hinX3 0 rfl rfl 2 (by decide) m_16 rfl dX3_restart_93 ?_
              refine lv_iload_n hx hb dX3_restart_96 rfl (lv_at hl 3 rfl) ?_
              obtain ⟨vq_11, hf⟩ := chk_s hf
              refine g_iald hK hG B 3 rfl vq_11 dX3_restart_97 ?_
              refine lv_bipush (v := 100) hx hb dX3_restart_98 (by decide) ?_
              refine lv_idiv hx hb dX3_restart_100 (by decide) ?_
              obtain ⟨vq_12, hf⟩ := chk_s hf
              refine g_iald hK hG B 1 rfl vq_12 dX3_restart_101 ?_
              refine lv_if_eq (tgt := 122) hx hb dX3_restart_102 (by decide) (fun cq_13 => ?_) (fun cq_13 => ?_)
              · have hf := ifT cq_13 hf
                refine lv_aload_n hx hb dX3_restart_122 rfl (lv_at hl 0 rfl) ?_
                refine lv_iload_n hx hb dX3_restart_123 rfl (lv_at hl 3 rfl) ?_
                refine lv_bipush (v := 8) hx hb dX3_restart_124 (by decide) ?_
                refine lv_idiv hx hb dX3_restart_126 (by decide) ?_
                refine lv_iload_n hx hb dX3_restart_127 rfl (lv_at hl 3 rfl) ?_
                refine lv_bipush (v := 8) hx hb dX3_restart_128 (by decide) ?_
                refine lv_irem hx hb dX3_restart_130 (by decide) ?_
                refine lv_iconst (v := 0) hx hb dX3_restart_131 (by decide) ?_
                obtain ⟨zv_14, hqzv_14, hf⟩ := ob hf
                refine gc_Vv hA hK hl.1 hG B (c_X3_setPlace l D cI cJ h0 qk qs qp qw qr qo qn _ g53 (y3_53 / (8 : Int32)) (y3_53 - y3_53 / (8 : Int32) * (8 : Int32)) (0 : Int32) _ hqzv_14) (cwV 3 hts gX3_restart_X3_setPlace rfl rfl rfl (by decide +kernel) ⟨by decide, by decide⟩) 0 rfl rfl rfl rfl rfl (Nat.le_of_ble_eq_true rfl) dX3_restart_132 ⟨Nat.zero_le _, Nat.zero_le _⟩ (fun H locs hG => ?_)
                refine lv_iinc (v := (y3_53 + (1 : Int32))) (lv' := [(3, .int (y3_53 + (1 : Int32))), (0, .ref h0), (1, .int y1_53), (2, .int y2_53)]) hx hb dX3_restart_135 hl (k := 3) rfl rfl (by decide) rfl (fun ls hl => ?_)
                refine lv_goto (tgt := 53) hx hb dX3_restart_138 (by decide) ?_
                have hn := hn53 _ (Option.some.inj hf).symm
                exact ih (y3_53 + (1 : Int32)) zv_14 _ _ _ hG (lv_sub hl [1, 2, 3, 0] rfl) hn
              · have hf := ifF cq_13 hf
                refine lv_aload_n hx hb dX3_restart_105 rfl (lv_at hl 0 rfl) ?_
                refine lv_aload_n hx hb dX3_restart_106 rfl (lv_at hl 0 rfl) ?_
                refine g_get hK hG B hinX3 0 rfl rfl 2 (by decide) m_16 rfl dX3_restart_107 ?_
                refine lv_iload_n hx hb dX3_restart_110 rfl (lv_at hl 3 rfl) ?_
                obtain ⟨vq_15, hf⟩ := chk_s hf
                refine g_iald hK hG B 3 rfl vq_15 dX3_restart_111 ?_
                refine lv_bipush (v := 100) hx hb dX3_restart_112 (by decide) ?_
                refine lv_idiv hx hb dX3_restart_114 (by decide) ?_
                refine lv_iload_n hx hb dX3_restart_115 rfl (lv_at hl 3 rfl) ?_
                obtain ⟨zv_16, hqzv_16, hf⟩ := ob hf
                refine gc_Vi hA hK hl.1 hG B (c_X3_stands l D cI cJ h0 qk qs qp qw qr qo qn _ g53 ((R_pl g53 y3_53.toNatClampNeg) / (100 : Int32)) y3_53 _ hqzv_16) (cwV 2 hts gX3_restart_X3_stands rfl rfl rfl (by decide +kernel) ⟨by decide, by decide⟩) 0 rfl rfl rfl rfl rfl (Nat.le_of_ble_eq_true rfl) dX3_restart_116 ⟨Nat.zero_le _, Nat.zero_le _⟩ (fun H locs hG => ?_)
                refine lv_if_eq (tgt := 135) hx hb dX3_restart_119 (by decide) (fun cq_17 => ?_) (fun cq_17 => ?_)
                · have hf := ifT cq_17 hf
                  refine lv_iinc (v := (y3_53 + (1 : Int32))) (lv' := [(3, .int (y3_53 + (1 : Int32))), (0, .ref h0), (1, .int y1_53), (2, .int y2_53)]) hx hb dX3_restart_135 hl (k := 3) rfl rfl (by decide) rfl (fun ls hl => ?_)
                  refine lv_goto (tgt := 53) hx hb dX3_restart_138 (by decide) ?_
                  have hn := hn53 _ (Option.some.inj hf).symm
                  exact ih (y3_53 + (1 : Int32)) g53 _ _ _ hG (lv_sub hl [1, 2, 3, 0] rfl) hn
                · have hf := ifF cq_17 hf
                  refine lv_aload_n hx hb dX3_restart_122 rfl (lv_at hl 0 rfl) ?_
                  refine lv_iload_n hx hb dX3_restart_123 rfl (lv_at hl 3 rfl) ?_
                  refine lv_bipush (v := 8) hx hb dX3_restart_124 (by decide) ?_
                  refine lv_idiv hx hb dX3_restart_126 (by decide) ?_
                  refine lv_iload_n hx hb dX3_restart_127 rfl (lv_at hl 3 rfl) ?_
                  refine lv_bipush (v := 8) hx hb dX3_restart_128 (by decide) ?_
                  refine lv_irem hx hb dX3_restart_130 (by decide) ?_
                  refine lv_iconst (v := 0) hx hb dX3_restart_131 (by decide) ?_
                  obtain ⟨zv_18, hqzv_18, hf⟩ := ob hf
                  refine gc_Vv hA hK hl.1 hG B (c_X3_setPlace l D cI cJ h0 qk qs qp qw qr qo qn _ g53 (y3_53 / (8 : Int32)) (y3_53 - y3_53 / (8 : Int32) * (8 : Int32)) (0 : Int32) _ hqzv_18) (cwV 3 hts gX3_restart_X3_setPlace rfl rfl rfl (by decide +kernel) ⟨by decide, by decide⟩) 0 rfl rfl rfl rfl rfl (Nat.le_of_ble_eq_true rfl) dX3_restart_132 ⟨Nat.zero_le _, Nat.zero_le _⟩ (fun H locs hG => ?_)
                  refine lv_iinc (v := (y3_53 + (1 : Int32))) (lv' := [(3, .int (y3_53 + (1 : Int32))), (0, .ref h0), (1, .int y1_53), (2, .int y2_53)]) hx hb dX3_restart_135 hl (k := 3) rfl rfl (by decide) rfl (fun ls hl => ?_)
                  refine lv_goto (tgt := 53) hx hb dX3_restart_138 (by decide) ?_
                  have hn := hn53 _ (Option.some.inj hf).symm
                  exact ih (y3_53 + (1 : Int32)) zv_18 _ _ _ hG (lv_sub hl [1, 2, 3, 0] rfl) hn
  have L143 : ∀ (res : (RS)) (y1_143 : Int32) (y2_143 : Int32), (∀ (H1 : Heap) (locs1 : List Loc) (ls1 : Array Slot) (e : RS), res = e → gG D A s.heap (wR h0 qk qs qp qw qr qo qn cI cJ e) H1 locs1 → lv_has ls1 4 [(0, .ref h0), (1, .int y1_143), (2, .int y2_143)] → W p l e0 { frames := 3, cells := 0, slots := 0, locals := 70 } s m ([.ref h0] : List Value).toArray below meth c H1 locs1 0 0 (MQ below (gQi D (gT cI cJ) A r (wR h0 qk qs qp qw qr qo qn cI cJ g1)) ([.ref h0] : List Value).toArray s 0 0 A) (F0 m 187 ls1 [])) → ∀ (n : Nat) (y3_143 : Int32) (g143 : RS) (H : Heap) (locs : List Loc) (ls : Array Slot), gG D A s.heap (wR h0 qk qs qp qw qr qo qn cI cJ g143) H locs → lv_has ls 4 [(0, .ref h0), (1, .int y1_143), (2, .int y2_143), (3, .int y3_143)] → itl (fun a : Int32 × RS => b_X3_restart_143 y1_143 y2_143 a.1 a.2) n (y3_143, g143) = some res → W p l e0 { frames := 3, cells := 0, slots := 0, locals := 70 } s m ([.ref h0] : List Value).toArray below meth c H locs 0 0 (MQ below (gQi D (gT cI cJ) A r (wR h0 qk qs qp qw qr qo qn cI cJ g1)) ([.ref h0] : List Value).toArray s 0 0 A) (F0 m 143 ls []) := by
    intro res y1_143 y2_143 hKe143 n
    induction n with
    | zero => exact fun y3_143 g143 H locs ls hG hl hf => (itl_0 hf).elim
    | succ n ih =>
      intro y3_143 g143 H locs ls hG hl hf
      obtain ⟨o, hf, ho143, hn143⟩ := itl_s hf
      have hf : b_X3_restart_143 y1_143 y2_143 y3_143 g143 = some o := hf
      unfold b_X3_restart_143 at hf
      refine lv_iload_n hx hb dX3_restart_143 rfl (lv_at hl 3 rfl) ?_
      refine lv_bipush (v := 12) hx hb dX3_restart_144 (by decide) ?_
      refine lv_icmp_ge (tgt := 187) hx hb dX3_restart_146 (by decide) (fun cq_20 => ?_) (fun cq_20 => ?_)
      · have hf := ifT cq_20 hf
        have hres := ho143 _ (Option.some.inj hf).symm
        exact hKe143 _ _ _ g143 hres.symm hG (lv_sub hl [0, 1, 2] rfl)
      · have hf := ifF cq_20 hf
        refine lv_aload_n hx hb dX3_restart_149 rfl (lv_at hl 0 rfl) ?_
        refine g_get hK hG B hinX3 0 rfl rfl 5 (by decide) m_36 rfl dX3_restart_150 ?_
        refine lv_if_ne (tgt := 187) hx hb dX3_restart_153 (by decide) (fun cq_21 => ?_) (fun cq_21 => ?_)
        · have hf := ifF cq_21 hf
          have hres := ho143 _ (Option.some.inj hf).symm
          exact hKe143 _ _ _ g143 hres.symm hG (lv_sub hl [0, 1, 2] rfl)
        · have hf := ifT cq_21 hf
          refine lv_aload_n hx hb dX3_restart_156 rfl (lv_at hl 0 rfl) ?_
          refine g_get hK hG B hinX3 0 rfl rfl 0 (by decide) m_7 rfl dX3_restart_157 ?_
          refine lv_iload_n hx hb dX3_restart_160 rfl (lv_at hl 3 rfl) ?_
          obtain ⟨vq_22, hf⟩ := chk_s hf
          refine g_iald hK hG B 1 rfl vq_22 dX3_restart_161 ?_
          refine lv_if_eq (tgt := 181) hx hb dX3_restart_162 (by decide) (fun cq_23 => ?_) (fun cq_23 => ?_)
          · have hf := ifT cq_23 hf
            refine lv_iinc (v := (y3_143 + (1 : Int32))) (lv' := [(3, .int (y3_143 + (1 : Int32))), (0, .ref h0), (1, .int y1_143), (2, .int y2_143)]) hx hb dX3_restart_181 hl (k := 3) rfl rfl (by decide) rfl (fun ls hl => ?_)
            refine lv_goto (tgt := 143) hx hb dX3_restart_184 (by decide) ?_
            have hn := hn143 _ (Option.some.inj hf).symm
            exact ih (y3_143 + (1 : Int32)) g143 _ _ _ hG (lv_sub hl [1, 2, 3, 0] rfl) hn
          · have hf := ifF cq_23 hf
            refine lv_aload_n hx hb dX3_restart_165 rfl (lv_at hl 0 rfl) ?_
            refine lv_iload_n hx hb dX3_restart_166 rfl (lv_at hl 3 rfl) ?_
            refine lv_bipush (v := 96) hx hb dX3_restart_167 (by decide) ?_
            obtain ⟨zv_24, hqzv_24, hf⟩ := ob hf
            refine gc_Vi hA hK hl.1 hG B (c_X3_stands l D cI cJ h0 qk qs qp qw qr qo qn _ g143 y3_143 (96 : Int32) _ hqzv_24) (cwV 2 hts gX3_restart_X3_stands rfl rfl rfl (by decide +kernel) ⟨by decide, by decide⟩) 0 rfl rfl rfl rfl rfl (Nat.le_of_ble_eq_true rfl) dX3_restart_169 ⟨Nat.zero_le _, Nat.zero_le _⟩ (fun H locs hG => ?_)
            refine lv_if_ne (tgt := 181) hx hb dX3_restart_172 (by decide) (fun cq_25 => ?_) (fun cq_25 => ?_)
            · have hf := ifF cq_25 hf
              refine lv_iinc (v := (y3_143 + (1 : Int32))) (lv' := [(3, .int (y3_143 + (1 : Int32))), (0, .ref h0), (1, .int y1_143), (2, .int y2_143)]) hx hb dX3_restart_181 hl (k := 3) rfl rfl (by decide) rfl (fun ls hl => ?_)
              refine lv_goto (tgt := 143) hx hb dX3_restart_184 (by decide) ?_
              have hn := hn143 _ (Option.some.inj hf).symm
              exact ih (y3_143 + (1 : Int32)) g143 _ _ _ hG (lv_sub hl [1, 2, 3, 0] rfl) hn
            · have hf := ifT cq_25 hf
              refine lv_aload_n hx hb dX3_restart_175 rfl (lv_at hl 0 rfl) ?_
              refine lv_iload_n hx hb dX3_restart_176 rfl (lv_at hl 3 rfl) ?_
              refine lv_iconst (v := 0) hx hb dX3_restart_177 (by decide) ?_
              obtain ⟨zv_26, hqzv_26, hf⟩ := ob hf
              refine gc_Vv hA hK hl.1 hG B (c_X3_setKind l D cI cJ h0 qk qs qp qw qr qo qn _ g143 y3_143 (0 : Int32) _ hqzv_26) (cwV 2 hts gX3_restart_X3_setKind rfl rfl rfl (by decide +kernel) ⟨by decide, by decide⟩) 0 rfl rfl rfl rfl rfl (Nat.le_of_ble_eq_true rfl) dX3_restart_178 ⟨Nat.zero_le _, Nat.zero_le _⟩ (fun H locs hG => ?_)
              refine lv_iinc (v := (y3_143 + (1 : Int32))) (lv' := [(3, .int (y3_143 + (1 : Int32))), (0, .ref h0), (1, .int y1_143), (2, .int y2_143)]) hx hb dX3_restart_181 hl (k := 3) rfl rfl (by decide) rfl (fun ls hl => ?_)
              refine lv_goto (tgt := 143) hx hb dX3_restart_184 (by decide) ?_
              have hn := hn143 _ (Option.some.inj hf).symm
              exact ih (y3_143 + (1 : Int32)) zv_26 _ _ _ hG (lv_sub hl [1, 2, 3, 0] rfl) hn
  have L31 : ∀ (res : (RS)) (y1_31 : Int32), (∀ (H1 : Heap) (locs1 : List Loc) (ls1 : Array Slot) (e : RS), res = e → gG D A s.heap (wR h0 qk qs qp qw qr qo qn cI cJ e) H1 locs1 → lv_has ls1 4 [(0, .ref h0), (1, .int y1_31)] → W p l e0 { frames := 3, cells := 0, slots := 0, locals := 70 } s m ([.ref h0] : List Value).toArray below meth c H1 locs1 0 0 (MQ below (gQi D (gT cI cJ) A r (wR h0 qk qs qp qw qr qo qn cI cJ g1)) ([.ref h0] : List Value).toArray s 0 0 A) (F0 m 190 ls1 [])) → ∀ (n : Nat) (y2_31 : Int32) (g31 : RS) (H : Heap) (locs : List Loc) (ls : Array Slot), gG D A s.heap (wR h0 qk qs qp qw qr qo qn cI cJ g31) H locs → lv_has ls 4 [(0, .ref h0), (1, .int y1_31), (2, .int y2_31)] → itl (fun a : Int32 × RS => b_X3_restart_31 y1_31 a.1 a.2) n (y2_31, g31) = some res → W p l e0 { frames := 3, cells := 0, slots := 0, locals := 70 } s m ([.ref h0] : List Value).toArray below meth c H locs 0 0 (MQ below (gQi D (gT cI cJ) A r (wR h0 qk qs qp qw qr qo qn cI cJ g1)) ([.ref h0] : List Value).toArray s 0 0 A) (F0 m 31 ls []) := by
    intro res y1_31 hKe31 n
    induction n with
    | zero => exact fun y2_31 g31 H locs ls hG hl hf => (itl_0 hf).elim
    | succ n ih =>
      intro y2_31 g31 H locs ls hG hl hf
      obtain ⟨o, hf, ho31, hn31⟩ := itl_s hf
      have hf : b_X3_restart_31 y1_31 y2_31 g31 = some o := hf
      unfold b_X3_restart_31 at hf
      refine lv_iload_n hx hb dX3_restart_31 rfl (lv_at hl 2 rfl) ?_
      refine lv_aload_n hx hb dX3_restart_32 rfl (lv_at hl 0 rfl) ?_
      refine g_get hK hG B hinX3 0 rfl rfl 7 (by decide) m_40 rfl dX3_restart_33 ?_
      refine lv_icmp_eq (tgt := 190) hx hb dX3_restart_36 (by decide) (fun cq_3 => ?_) (fun cq_3 => ?_)
      · have hf := ifT cq_3 hf
        have hres := ho31 _ (Option.some.inj hf).symm
        exact hKe31 _ _ _ g31 hres.symm hG (lv_sub hl [0, 1] rfl)
      · have hf := ifF cq_3 hf
        refine lv_aload_n hx hb dX3_restart_39 rfl (lv_at hl 0 rfl) ?_
        refine g_get hK hG B hinX3 0 rfl rfl 5 (by decide) m_36 rfl dX3_restart_40 ?_
        refine lv_if_ne (tgt := 190) hx hb dX3_restart_43 (by decide) (fun cq_4 => ?_) (fun cq_4 => ?_)
        · have hf := ifF cq_4 hf
          have hres := ho31 _ (Option.some.inj hf).symm
          exact hKe31 _ _ _ g31 hres.symm hG (lv_sub hl [0, 1] rfl)
        · have hf := ifT cq_4 hf
          refine lv_aload_n hx hb dX3_restart_46 rfl (lv_at hl 0 rfl) ?_
          refine g_get hK hG B hinX3 0 rfl rfl 7 (by decide) m_40 rfl dX3_restart_47 ?_
          refine lv_istore_n (lv' := [(2, .int (R_wr g31)), (0, .ref h0), (1, .int y1_31)]) hx hb dX3_restart_50 rfl hl (by decide) rfl (fun ls hl => ?_)
          refine lv_iconst (v := 0) hx hb dX3_restart_51 (by decide) ?_
          refine lv_istore_n (lv' := [(3, .int (0 : Int32)), (2, .int (R_wr g31)), (0, .ref h0), (1, .int y1_31)]) hx hb dX3_restart_52 rfl hl (by decide) rfl (fun ls hl => ?_)
          obtain ⟨zv_19, hizv_19, hf⟩ := ob hf
          refine L53 zv_19 y1_31 (R_wr g31) (fun H locs ls ev_19 hres hG hl => ?_) 300 (0 : Int32) g31 _ _ _ hG (lv_sub hl [2, 3, 1, 0] rfl) hizv_19
          have hres := hres.symm
          subst hres
          refine lv_iconst (v := 1) hx hb dX3_restart_141 (by decide) ?_
          refine lv_istore_n (lv' := [(3, .int (1 : Int32)), (0, .ref h0), (1, .int y1_31), (2, .int (R_wr g31))]) hx hb dX3_restart_142 rfl hl (by decide) rfl (fun ls hl => ?_)
          obtain ⟨zv_27, hizv_27, hf⟩ := ob hf
          refine L143 zv_27 y1_31 (R_wr g31) (fun H locs ls ev_27 hres hG hl => ?_) 300 (1 : Int32) ev_19 _ _ _ hG (lv_sub hl [1, 2, 3, 0] rfl) hizv_27
          have hres := hres.symm
          subst hres
          refine lv_goto (tgt := 31) hx hb dX3_restart_187 (by decide) ?_
          have hn := hn31 _ (Option.some.inj hf).symm
          exact ih (R_wr g31) ev_27 _ _ _ hG (lv_sub hl [0, 1, 2] rfl) hn
  unfold f_X3_restart at hf
  refine lv_aload_n hx hb dX3_restart_0 rfl (lv_at hl 0 rfl) ?_
  refine g_get hK hG B hinX3 0 rfl rfl 7 (by decide) m_40 rfl dX3_restart_1 ?_
  refine lv_istore_n (lv' := [(1, .int (R_wr g)), (0, .ref h0)]) hx hb dX3_restart_4 rfl hl (by decide) rfl (fun ls hl => ?_)
  refine lv_aload_n hx hb dX3_restart_5 rfl (lv_at hl 1 rfl) ?_
  refine lv_iconst (v := 0) hx hb dX3_restart_6 (by decide) ?_
  refine gp_R_down hK hG B hinX3 m_36 rfl rfl dX3_restart_7 (fun H locs hG => ?_)
  refine lv_aload_n hx hb dX3_restart_10 rfl (lv_at hl 1 rfl) ?_
  refine g_get hK hG B hinX3 0 rfl rfl 4 (by decide) m_23 rfl dX3_restart_11 ?_
  refine lv_iconst (v := 0) hx hb dX3_restart_14 (by decide) ?_
  obtain ⟨vq_1, hf⟩ := chk_s hf
  refine g_iald hK hG B 5 rfl vq_1 dX3_restart_15 ?_
  refine lv_if_le (tgt := 29) hx hb dX3_restart_16 (by decide) (fun cq_2 => ?_) (fun cq_2 => ?_)
  · have hf := ifT cq_2 hf
    refine lv_iconst (v := -1) hx hb dX3_restart_29 (by decide) ?_
    refine lv_istore_n (lv' := [(2, .int (-1 : Int32)), (1, .int (R_wr g)), (0, .ref h0)]) hx hb dX3_restart_30 rfl hl (by decide) rfl (fun ls hl => ?_)
    obtain ⟨zv_28, hizv_28, hf⟩ := ob hf
    refine L31 zv_28 (R_wr g) (fun H locs ls ev_28 hres hG hl => ?_) 300 (-1 : Int32) (sR_down (0 : Int32) g) _ _ _ hG (lv_sub hl [2, 1, 0] rfl) hizv_28
    have hres := hres.symm
    subst hres
    refine lv_aload_n hx hb dX3_restart_190 rfl (lv_at hl 0 rfl) ?_
    refine g_get hK hG B hinX3 0 rfl rfl 5 (by decide) m_36 rfl dX3_restart_191 ?_
    refine lv_if_eq (tgt := 202) hx hb dX3_restart_194 (by decide) (fun cq_29 => ?_) (fun cq_29 => ?_)
    · have hf := ifT cq_29 hf
      refine lv_aload_n hx hb dX3_restart_202 rfl (lv_at hl 0 rfl) ?_
      refine g_get hK hG B hinX3 0 rfl rfl 7 (by decide) m_40 rfl dX3_restart_203 ?_
      refine lv_iload_n hx hb dX3_restart_206 rfl (lv_at hl 1 rfl) ?_
      refine lv_isub hx hb dX3_restart_207 ?_
      have hf := Option.some.inj hf
      obtain ⟨e1, e2⟩ := Prod.mk.inj hf
      subst e2
      exact g_iret hr hlk hK hG B rfl e1 dX3_restart_208
    · have hf := ifF cq_29 hf
      refine lv_bipush (v := -2) hx hb dX3_restart_197 (by decide) ?_
      refine lv_goto (tgt := 208) hx hb dX3_restart_199 (by decide) ?_
      have hf := Option.some.inj hf
      obtain ⟨e1, e2⟩ := Prod.mk.inj hf
      subst e2
      exact g_iret hr hlk hK hG B rfl e1 dX3_restart_208
  · have hf := ifF cq_2 hf
    refine lv_aload_n hx hb dX3_restart_19 rfl (lv_at hl 1 rfl) ?_
    refine lv_aload_n hx hb dX3_restart_20 rfl (lv_at hl 1 rfl) ?_
    refine g_get hK hG B hinX3 0 rfl rfl 4 (by decide) m_23 rfl dX3_restart_21 ?_
    refine lv_iconst (v := 0) hx hb dX3_restart_24 (by decide) ?_
    obtain ⟨vq_30, hf⟩ := chk_s hf
    refine g_iald hK hG B 5 rfl vq_30 dX3_restart_25 ?_
    obtain ⟨zv_31, hqzv_31, hf⟩ := ob hf
    refine gc_Vv hA hK hl.1 hG B (c_X3_move l D cI cJ h0 qk qs qp qw qr qo qn _ (sR_down (0 : Int32) g) (R_rec (sR_down (0 : Int32) g) (0 : Int32).toNatClampNeg) _ hqzv_31) (cwV 1 hts gX3_restart_X3_move rfl rfl rfl (by decide +kernel) ⟨by decide, by decide⟩) 0 rfl rfl rfl rfl rfl (Nat.le_of_ble_eq_true rfl) dX3_restart_26 ⟨Nat.zero_le _, Nat.zero_le _⟩ (fun H locs hG => ?_)
    refine lv_iconst (v := -1) hx hb dX3_restart_29 (by decide) ?_
    refine lv_istore_n (lv' := [(2, .int (-1 : Int32)), (1, .int (R_wr g)), (0, .ref h0)]) hx hb dX3_restart_30 rfl hl (by decide) rfl (fun ls hl => ?_)
    obtain ⟨zv_32, hizv_32, hf⟩ := ob hf
    refine L31 zv_32 (R_wr g) (fun H locs ls ev_32 hres hG hl => ?_) 300 (-1 : Int32) zv_31 _ _ _ hG (lv_sub hl [2, 1, 0] rfl) hizv_32
    have hres := hres.symm
    subst hres
    refine lv_aload_n hx hb dX3_restart_190 rfl (lv_at hl 0 rfl) ?_
    refine g_get hK hG B hinX3 0 rfl rfl 5 (by decide) m_36 rfl dX3_restart_191 ?_
    refine lv_if_eq (tgt := 202) hx hb dX3_restart_194 (by decide) (fun cq_33 => ?_) (fun cq_33 => ?_)
    · have hf := ifT cq_33 hf
      refine lv_aload_n hx hb dX3_restart_202 rfl (lv_at hl 0 rfl) ?_
      refine g_get hK hG B hinX3 0 rfl rfl 7 (by decide) m_40 rfl dX3_restart_203 ?_
      refine lv_iload_n hx hb dX3_restart_206 rfl (lv_at hl 1 rfl) ?_
      refine lv_isub hx hb dX3_restart_207 ?_
      have hf := Option.some.inj hf
      obtain ⟨e1, e2⟩ := Prod.mk.inj hf
      subst e2
      exact g_iret hr hlk hK hG B rfl e1 dX3_restart_208
    · have hf := ifF cq_33 hf
      refine lv_bipush (v := -2) hx hb dX3_restart_197 (by decide) ?_
      refine lv_goto (tgt := 208) hx hb dX3_restart_199 (by decide) ?_
      have hf := Option.some.inj hf
      obtain ⟨e1, e2⟩ := Prod.mk.inj hf
      subst e2
      exact g_iret hr hlk hK hG B rfl e1 dX3_restart_208
def f_X3_isDown  (g : RS) : Int32 := (if (R_down g) = (0 : Int32) then (0 : Int32) else (1 : Int32))
set_option maxHeartbeats 4000000 in
set_option maxRecDepth 100000 in
theorem c_X3_isDown (l : Launch) (D : va_G) (cI cJ : ClassId) (h0 qk qs qp qw qr qo qn sz : Nat) (g : RS)  (r : Int32) (hf : f_X3_isDown  g = r) : Met l yX3_isDown wsX3_isDown { frames := 0, cells := 0, slots := 0, locals := 0 } (gPc D (gT cI cJ) sz (wR h0 qk qs qp qw qr qo qn cI cJ g) [.ref h0]) (gQi D (gT cI cJ) (va_A (wR h0 qk qs qp qw qr qo qn cI cJ g) sz) r (wR h0 qk qs qp qw qr qo qn cI cJ g)) 0 0 (va_A (wR h0 qk qs qp qw qr qo qn cI cJ g) sz) := by
  refine gMet (cc := cX3_isDown) (maxL := 1) (ret := (some .int)) (by decide) rfl ?_ (Nat.le_of_ble_eq_true rfl)
  intro p e0 s m below meth c ls B hr hlk hsz hK hG hl
  have hA : ∀ q : Nat, s.heap.size ≤ q → va_A (wR h0 qk qs qp qw qr qo qn cI cJ g) sz q := fun q h => Or.inr (hsz ▸ h)
  have hx := B.1
  have hb := B.2.1
  have hts := B.2.2.2.2
  have hl : lv_has ls 1 [(0, .ref h0)] := hl
  generalize va_A (wR h0 qk qs qp qw qr qo qn cI cJ g) sz = A at hA hG ⊢
  have hinX3 : ∀ x ∈ wsX30, x ∈ wsX3_isDown := by decide +kernel
  have m_36 : Cond.fieldLink RX3 36 "BlockMoverModel" "down" "Z" ∈ wsX3_isDown := by decide +kernel
  unfold f_X3_isDown at hf
  refine lv_aload_n hx hb dX3_isDown_0 rfl (lv_at hl 0 rfl) ?_
  refine g_get hK hG B hinX3 0 rfl rfl 5 (by decide) m_36 rfl dX3_isDown_1 ?_
  refine lv_if_eq (tgt := 11) hx hb dX3_isDown_4 (by decide) (fun cq_1 => ?_) (fun cq_1 => ?_)
  · have hf := ifT cq_1 hf
    refine lv_iconst (v := 0) hx hb dX3_isDown_11 (by decide) ?_
    exact g_iret hr hlk hK hG B rfl hf dX3_isDown_12
  · have hf := ifF cq_1 hf
    refine lv_iconst (v := 1) hx hb dX3_isDown_7 (by decide) ?_
    refine lv_goto (tgt := 12) hx hb dX3_isDown_8 (by decide) ?_
    exact g_iret hr hlk hK hG B rfl hf dX3_isDown_12
def f_X3_find (x1 : Int32) (x2 : Int32) (g : RS) : Option Int32 := ((f_X3_isInode x1 (1 : Int32) g).bind (fun zv_1 => (if zv_1 = (0 : Int32) then some (-1 : Int32) else (if (f_X3_isName x2) = (0 : Int32) then some (-1 : Int32) else ((f_X3_entry x1 x2 g).bind (fun zv_4 => (if (0 : Int32) ≤ zv_4 then (chk (((8 : Int32) * x1) + zv_4) 96 (some ((R_pl g (((8 : Int32) * x1) + zv_4).toNatClampNeg) / (100 : Int32)))) else some (-3 : Int32))))))))
set_option maxHeartbeats 4000000 in
set_option maxRecDepth 100000 in
theorem c_X3_find (l : Launch) (D : va_G) (cI cJ : ClassId) (h0 qk qs qp qw qr qo qn sz : Nat) (g : RS) (x1 : Int32) (x2 : Int32) (r : Int32) (hf : f_X3_find x1 x2 g = some r) : Met l yX3_find wsX3_find { frames := 2, cells := 0, slots := 0, locals := 47 } (gPc D (gT cI cJ) sz (wR h0 qk qs qp qw qr qo qn cI cJ g) [.ref h0, .int x1, .int x2]) (gQi D (gT cI cJ) (va_A (wR h0 qk qs qp qw qr qo qn cI cJ g) sz) r (wR h0 qk qs qp qw qr qo qn cI cJ g)) 0 0 (va_A (wR h0 qk qs qp qw qr qo qn cI cJ g) sz) := by
  refine gMet (cc := cX3_find) (maxL := 4) (ret := (some .int)) (by decide) rfl ?_ (Nat.le_of_ble_eq_true rfl)
  intro p e0 s m below meth c ls B hr hlk hsz hK hG hl
  have hA : ∀ q : Nat, s.heap.size ≤ q → va_A (wR h0 qk qs qp qw qr qo qn cI cJ g) sz q := fun q h => Or.inr (hsz ▸ h)
  have hx := B.1
  have hb := B.2.1
  have hts := B.2.2.2.2
  have hl : lv_has ls 4 [(0, .ref h0), (1, .int x1), (2, .int x2)] := hl
  generalize va_A (wR h0 qk qs qp qw qr qo qn cI cJ g) sz = A at hA hG ⊢
  have hinX3 : ∀ x ∈ wsX30, x ∈ wsX3_find := by decide +kernel
  have m_16 : Cond.fieldLink RX3 16 "BlockMoverModel" "places" "[I" ∈ wsX3_find := by decide +kernel
  unfold f_X3_find at hf
  refine lv_aload_n hx hb dX3_find_0 rfl (lv_at hl 0 rfl) ?_
  refine lv_iload_n hx hb dX3_find_1 rfl (lv_at hl 1 rfl) ?_
  refine lv_iconst (v := 1) hx hb dX3_find_2 (by decide) ?_
  obtain ⟨zv_1, hqzv_1, hf⟩ := ob hf
  refine gc_Vi hA hK hl.1 hG B (c_X3_isInode l D cI cJ h0 qk qs qp qw qr qo qn _ g x1 (1 : Int32) _ hqzv_1) (cwV 2 hts gX3_find_X3_isInode rfl rfl rfl (by decide +kernel) ⟨by decide, by decide⟩) 0 rfl rfl rfl rfl rfl (Nat.le_of_ble_eq_true rfl) dX3_find_3 ⟨Nat.zero_le _, Nat.zero_le _⟩ (fun H locs hG => ?_)
  refine lv_if_eq (tgt := 16) hx hb dX3_find_6 (by decide) (fun cq_2 => ?_) (fun cq_2 => ?_)
  · have hf := ifT cq_2 hf
    refine lv_iconst (v := -1) hx hb dX3_find_16 (by decide) ?_
    have hf := Option.some.inj hf
    exact g_iret hr hlk hK hG B rfl hf dX3_find_17
  · have hf := ifF cq_2 hf
    refine lv_iload_n hx hb dX3_find_9 rfl (lv_at hl 2 rfl) ?_
    refine gc_Si hA hK hl.1 hG B (c_X3_isName l D (gT cI cJ) _ (wR h0 qk qs qp qw qr qo qn cI cJ g) x2 _ rfl) (va_cwS 1 hts gX3_find_X3_isName rfl rfl rfl (by decide +kernel) ⟨by decide, by decide⟩) rfl rfl (Nat.le_of_ble_eq_true rfl) dX3_find_10 ⟨Nat.zero_le _, Nat.zero_le _⟩ (fun H locs hG => ?_)
    refine lv_if_ne (tgt := 18) hx hb dX3_find_13 (by decide) (fun cq_3 => ?_) (fun cq_3 => ?_)
    · have hf := ifF cq_3 hf
      refine lv_aload_n hx hb dX3_find_18 rfl (lv_at hl 0 rfl) ?_
      refine lv_iload_n hx hb dX3_find_19 rfl (lv_at hl 1 rfl) ?_
      refine lv_iload_n hx hb dX3_find_20 rfl (lv_at hl 2 rfl) ?_
      obtain ⟨zv_4, hqzv_4, hf⟩ := ob hf
      refine gc_Vi hA hK hl.1 hG B (c_X3_entry l D cI cJ h0 qk qs qp qw qr qo qn _ g x1 x2 _ hqzv_4) (cwV 2 hts gX3_find_X3_entry rfl rfl rfl (by decide +kernel) ⟨by decide, by decide⟩) 0 rfl rfl rfl rfl rfl (Nat.le_of_ble_eq_true rfl) dX3_find_21 ⟨Nat.zero_le _, Nat.zero_le _⟩ (fun H locs hG => ?_)
      refine lv_istore_n (lv' := [(3, .int zv_4), (0, .ref h0), (1, .int x1), (2, .int x2)]) hx hb dX3_find_24 rfl hl (by decide) rfl (fun ls hl => ?_)
      refine lv_iload_n hx hb dX3_find_25 rfl (lv_at hl 0 rfl) ?_
      refine lv_if_ge (tgt := 34) hx hb dX3_find_26 (by decide) (fun cq_5 => ?_) (fun cq_5 => ?_)
      · have hf := ifT cq_5 hf
        refine lv_aload_n hx hb dX3_find_34 rfl (lv_at hl 1 rfl) ?_
        refine g_get hK hG B hinX3 0 rfl rfl 2 (by decide) m_16 rfl dX3_find_35 ?_
        refine lv_bipush (v := 8) hx hb dX3_find_38 (by decide) ?_
        refine lv_iload_n hx hb dX3_find_40 rfl (lv_at hl 2 rfl) ?_
        refine lv_imul hx hb dX3_find_41 ?_
        refine lv_iload_n hx hb dX3_find_42 rfl (lv_at hl 0 rfl) ?_
        refine lv_iadd hx hb dX3_find_43 ?_
        obtain ⟨vq_6, hf⟩ := chk_s hf
        refine g_iald hK hG B 3 rfl vq_6 dX3_find_44 ?_
        refine lv_bipush (v := 100) hx hb dX3_find_45 (by decide) ?_
        refine lv_idiv hx hb dX3_find_47 (by decide) ?_
        have hf := Option.some.inj hf
        exact g_iret hr hlk hK hG B rfl hf dX3_find_48
      · have hf := ifF cq_5 hf
        refine lv_bipush (v := -3) hx hb dX3_find_29 (by decide) ?_
        refine lv_goto (tgt := 48) hx hb dX3_find_31 (by decide) ?_
        have hf := Option.some.inj hf
        exact g_iret hr hlk hK hG B rfl hf dX3_find_48
    · have hf := ifT cq_3 hf
      refine lv_iconst (v := -1) hx hb dX3_find_16 (by decide) ?_
      have hf := Option.some.inj hf
      exact g_iret hr hlk hK hG B rfl hf dX3_find_17
