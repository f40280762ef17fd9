abbrev wD0 (q1 : Nat) : va_W := [(q1, .inr (0, [.null, .int 0, .int 0, .int 0]))]
abbrev wD1 (q1 : Nat) (cJ : ClassId) (q3 : Nat) : va_W := [(q1, .inr (0, [.ref q3, .int (-3), .int 0, .int 0])), (q3, .inl (cJ, 244, .inr (.inl (vp_updL (fun _ => 0) 0 1))))]
set_option maxHeartbeats 4000000 in
set_option maxRecDepth 100000 in
theorem c_X0_init (l : Launch) (D : va_G) (cI cJ : ClassId) (q1 sz : Nat) : Met l yX0_init wsX0_init { frames := 1, cells := 1, slots := 244, locals := 12 } (gPc D (gT cI cJ) sz (wD0 q1) [.ref q1]) (va_Qv (S := Nat) (fun _ => True) (fun u t => gB D (gT cI cJ) (va_A (wD0 q1) sz) (wD1 q1 cJ u) t) (va_A (wD0 q1) sz)) 1 244 (va_A (wD0 q1) sz) := by
  refine gMetC (cc := cX0_init) (maxL := 1) (ret := none) (by decide) rfl ?_ (Nat.le_of_ble_eq_true rfl)
  intro p e0 s m below meth c ls B hr hlk hnm hsz hK hG hl
  have hA : ∀ q : Nat, s.heap.size ≤ q → va_A (wD0 q1) sz q := fun q h => Or.inr (hsz ▸ h)
  have hx := B.1
  have hb := B.2.1
  have hts := B.2.2.2.2
  have hl : lv_has ls 1 [(0, .ref q1)] := hl
  have hini : meth.name = "<init>" := hnm
  generalize va_A (wD0 q1) sz = A at hA hG ⊢
  have hinX0 : ∀ x ∈ wsX00, x ∈ wsX0_init := by decide +kernel
  have m_9 : Cond.fieldLink RX0 9 "BlockMover$Disk" "words" "[J" ∈ wsX0_init := by decide +kernel
  have m_15 : Cond.fieldLink RX0 15 "BlockMover$Disk" "left" "I" ∈ wsX0_init := by decide +kernel
  have m_a : Cond.arrayClass .long ∈ wsX0_init := by decide +kernel
  refine lv_aload_n hx hb dX0_init_0 rfl (lv_at hl 0 rfl) ?_
  refine W.objInit hx hb B.2.2.2.1 (hts (.methodLink RX0 3 objectInit) (by decide +kernel)) (hts (.instanceMethod objectInit) (by decide +kernel)) (hts _ (List.mem_cons_of_mem _ (List.mem_append_left _ (List.mem_of_getElem? (i := 2) rfl)))) rfl (by rw [B.2.2.1]; exact hl.1) rfl dX0_init_1 (Nat.le_of_ble_eq_true rfl) (Nat.le_of_ble_eq_true rfl) ?_
  refine W.eq (g2 := F0 m 4 ls []) rfl ?_
  refine lv_aload_n hx hb dX0_init_4 rfl (lv_at hl 0 rfl) ?_
  refine lv_sipush (v := 244) hx hb dX0_init_5 (by decide) ?_
  refine g_newL 244 hA hK hG B m_a (by decide) (by decide) (by decide) (by decide) (by decide) dX0_init_8 (fun q3 H hG => ?_)
  have hG : gG D A s.heap [(q1, .inr (0, [.null, .int 0, .int 0, .int 0])), (q3, .inl (cJ, 244, .inr (.inl (fun _ => 0))))] H [] := hG
  refine g_putF hK hG B hinX0 tyX0_ok nmX0 0 rfl rfl 0 (by decide) m_9 rfl hini rfl rfl rfl rfl (Nat.le_of_ble_eq_true rfl) dX0_init_10 (fun H locs hG => ?_)
  have hG : gG D A s.heap [(q1, .inr (0, [.ref q3, .int 0, .int 0, .int 0])), (q3, .inl (cJ, 244, .inr (.inl (fun _ => 0))))] H locs := hG
  refine lv_aload_n hx hb dX0_init_13 rfl (lv_at hl 0 rfl) ?_
  refine g_get hK hG B hinX0 0 rfl rfl 0 (by decide) m_9 rfl dX0_init_14 ?_
  refine lv_iconst (v := 0) hx hb dX0_init_17 (by decide) ?_
  refine lv_lconst (v := 1) hx hb dX0_init_18 (by decide) ?_
  refine g_last hK hG B 1 rfl (vp_in_nI (n := 0) (N := 244) (by omega) (by omega)) dX0_init_19 (fun H locs hG => ?_)
  have hG : gG D A s.heap [(q1, .inr (0, [.ref q3, .int 0, .int 0, .int 0])), (q3, .inl (cJ, 244, .inr (.inl (vp_updL (fun _ => 0) 0 1))))] H locs := hG
  refine lv_aload_n hx hb dX0_init_20 rfl (lv_at hl 0 rfl) ?_
  refine lv_bipush (v := -3) hx hb dX0_init_21 (by decide) ?_
  refine g_put hK hG B hinX0 tyX0_ok nmX0 0 rfl rfl 1 (by decide) m_15 rfl rfl rfl rfl (Nat.le_of_ble_eq_true rfl) dX0_init_23 (fun H locs hG => ?_)
  have hG : gG D A s.heap (wD1 q1 cJ q3) H locs := hG
  obtain ⟨hP, hD, hS⟩ := hG
  exact W.vret hx hb hr (fun t ht hW => ⟨⟨q3, rfl, trivial, by rw [ht]; exact hP, va_K.moved hW.alike hK, hD⟩, hS.F ht⟩) hS.2.2 dX0_init_26 hlk
abbrev wP0 (q2 : Nat) : va_W := [(q2, .inr (1, [.int 0, .int 0, .int 0]))]
set_option maxHeartbeats 4000000 in
set_option maxRecDepth 100000 in
theorem c_X1_init (l : Launch) (D : va_G) (cI cJ : ClassId) (q2 sz : Nat) : Met l yX1_init wsX1_init { frames := 1, cells := 0, slots := 0, locals := 12 } (gPc D (gT cI cJ) sz (wP0 q2) [.ref q2]) (va_Qv (S := Unit) (fun _ => True) (fun _ t => gB D (gT cI cJ) (va_A (wP0 q2) sz) (wP0 q2) t) (va_A (wP0 q2) sz)) 0 0 (va_A (wP0 q2) sz) := by
  refine gMetC (cc := cX1_init) (maxL := 1) (ret := none) (by decide) rfl ?_ (Nat.le_of_ble_eq_true rfl)
  intro p e0 s m below meth c ls B hr hlk hnm hsz hK hG hl
  have hx := B.1
  have hb := B.2.1
  have hts := B.2.2.2.2
  have hl : lv_has ls 1 [(0, .ref q2)] := hl
  refine lv_aload_n hx hb dX1_init_0 rfl (lv_at hl 0 rfl) ?_
  refine W.objInit hx hb B.2.2.2.1 (hts (.methodLink RX1 1 objectInit) (by decide +kernel)) (hts (.instanceMethod objectInit) (by decide +kernel)) (hts _ (List.mem_cons_of_mem _ (List.mem_of_getElem? (i := 2) rfl))) rfl (by rw [B.2.2.1]; exact hl.1) rfl dX1_init_1 (Nat.le_of_ble_eq_true rfl) (Nat.le_of_ble_eq_true rfl) ?_
  refine W.eq (g2 := F0 m 4 ls []) rfl ?_
  obtain ⟨hP, hD, hS⟩ := hG
  exact W.vret hx hb hr (fun t ht hW => ⟨⟨(), rfl, trivial, by rw [ht]; exact hP, va_K.moved hW.alike hK, hD⟩, hS.F ht⟩) hS.2.2 dX1_init_4 hlk
/-- a new BlockMover's state -/
def c0S : CS := (0, 0, 0, -3, 0, 0, 0, 0, 0, vp_updL (fun _ => 0) 0 1)
abbrev wX0 (h0 : Nat) : va_W := [(h0, .inr (2, [.null, .null, .long 0, .int 0, .int 0]))]
set_option maxHeartbeats 4000000 in
set_option maxRecDepth 100000 in
theorem c_X2_init (l : Launch) (D : va_G) (cI cJ : ClassId) (h0 sz : Nat) : Met l yX2_init wsX2_init { frames := 2, cells := 3, slots := 251, locals := 32 } (gPcN D (gT cI cJ) sz (wX0 h0) [.ref h0]) (va_Qv (S := Nat × Nat × Nat) (fun _ => True) (fun u t => gB D (gT cI cJ) (va_A (wX0 h0) sz) (wC h0 u.1 u.2.1 u.2.2 cJ c0S) t) (va_A (wX0 h0) sz)) 3 251 (va_A (wX0 h0) sz) := by
  refine gMetN (cc := cX2_init) (maxL := 1) (ret := none) (by decide) rfl ?_ (Nat.le_of_ble_eq_true rfl)
  intro p e0 s m below meth c ls B hr hlk hnm hsz hK hN hG hl
  have hA : ∀ q : Nat, s.heap.size ≤ q → va_A (wX0 h0) sz q := fun q h => Or.inr (hsz ▸ h)
  have hx := B.1
  have hb := B.2.1
  have hts := B.2.2.2.2
  have hl : lv_has ls 1 [(0, .ref h0)] := hl
  have hini : meth.name = "<init>" := hnm
  generalize va_A (wX0 h0) sz = A at hA hG ⊢
  have hinX0 : ∀ x ∈ wsX00, x ∈ wsX2_init := by decide +kernel
  have hinX1 : ∀ x ∈ wsX10, x ∈ wsX2_init := by decide +kernel
  have hinX2 : ∀ x ∈ wsX20, x ∈ wsX2_init := by decide +kernel
  have m_12 : Cond.fieldLink RX2 12 "BlockMover" "disk" "LBlockMover$Disk;" ∈ wsX2_init := by decide +kernel
  have m_19 : Cond.fieldLink RX2 19 "BlockMover" "next" "LBlockMover$Plan;" ∈ wsX2_init := by decide +kernel
  refine lv_aload_n hx hb dX2_init_0 rfl (lv_at hl 0 rfl) ?_
  refine W.objInit hx hb B.2.2.2.1 (hts (.methodLink RX2 3 objectInit) (by decide +kernel)) (hts (.instanceMethod objectInit) (by decide +kernel)) (hts _ (List.mem_cons_of_mem _ (List.mem_append_left _ (List.mem_append_left _ (List.mem_append_left _ (List.mem_of_getElem? (i := 2) rfl)))))) rfl (by rw [B.2.2.1]; exact hl.1) rfl dX2_init_1 (Nat.le_of_ble_eq_true rfl) (Nat.le_of_ble_eq_true rfl) ?_
  refine W.eq (g2 := F0 m 4 ls []) rfl ?_
  refine lv_aload_n hx hb dX2_init_4 rfl (lv_at hl 0 rfl) ?_
  refine g_new (ci := 0) (fs := [.null, .int 0, .int 0, .int 0]) hA hK hG B hinX0 tyX0_ok (by decide +kernel) (by decide +kernel) (by decide +kernel) rfl (fun j hj => by rcases (show j = 0 ∨ j = 1 ∨ j = 2 ∨ j = 3 by omega) with rfl | rfl | rfl | rfl <;> rfl) (by decide) (by decide) dX2_init_5 (fun q1 H hG => ?_)
  have hG : gG D A s.heap [(h0, .inr (2, [.null, .null, .long 0, .int 0, .int 0])), (q1, .inr (0, [.null, .int 0, .int 0, .int 0]))] H [] := hG
  refine lv_dup hx hb dX2_init_8 rfl ?_
  refine gl_I (wc := wD0 q1) (wr := [(h0, .inr (2, [.null, .null, .long 0, .int 0, .int 0]))]) (wf := fun q3 => wD1 q1 cJ q3) [1] [0] hA hK hl.1 hG B (c_X0_init l D cI cJ q1 _) (cwI 0 hts gX2_init_X0_init rfl rfl rfl (hts (.initialized RX0) (by decide +kernel)) (hts (.methodLink RX2 11 yX0_init) (by decide +kernel)) (hts (.instanceMethod yX0_init) (by decide +kernel)) rfl (by decide +kernel) ⟨by decide, by decide⟩) rfl rfl rfl rfl (by decide) (Nat.le_of_ble_eq_true rfl) dX2_init_9 ⟨by decide, by decide⟩ (fun q3 H locs hG => ?_)
  have hG : gG D A s.heap [(h0, .inr (2, [.null, .null, .long 0, .int 0, .int 0])), (q1, .inr (0, [.ref q3, .int (-3), .int 0, .int 0])), (q3, .inl (cJ, 244, .inr (.inl (vp_updL (fun _ => 0) 0 1))))] H locs := hG
  refine g_putF hK hG B hinX2 tyX2_ok nmX2 0 rfl rfl 0 (by decide) m_12 rfl hini rfl rfl rfl rfl (Nat.le_of_ble_eq_true rfl) dX2_init_12 (fun H locs hG => ?_)
  have hG : gG D A s.heap [(h0, .inr (2, [.ref q1, .null, .long 0, .int 0, .int 0])), (q1, .inr (0, [.ref q3, .int (-3), .int 0, .int 0])), (q3, .inl (cJ, 244, .inr (.inl (vp_updL (fun _ => 0) 0 1))))] H locs := hG
  refine lv_aload_n hx hb dX2_init_15 rfl (lv_at hl 0 rfl) ?_
  refine g_new (ci := 1) (fs := [.int 0, .int 0, .int 0]) hA hK hG B hinX1 tyX1_ok (by decide +kernel) (by decide +kernel) (by decide +kernel) rfl (fun j hj => by rcases (show j = 0 ∨ j = 1 ∨ j = 2 by omega) with rfl | rfl | rfl <;> rfl) (by decide) (by decide) dX2_init_16 (fun q2 H hG => ?_)
  have hG : gG D A s.heap [(h0, .inr (2, [.ref q1, .null, .long 0, .int 0, .int 0])), (q1, .inr (0, [.ref q3, .int (-3), .int 0, .int 0])), (q3, .inl (cJ, 244, .inr (.inl (vp_updL (fun _ => 0) 0 1)))), (q2, .inr (1, [.int 0, .int 0, .int 0]))] H locs := hG
  refine lv_dup hx hb dX2_init_19 rfl ?_
  refine gl_Inest (wc := wP0 q2) (wr := [(h0, .inr (2, [.ref q1, .null, .long 0, .int 0, .int 0])), (q1, .inr (0, [.ref q3, .int (-3), .int 0, .int 0])), (q3, .inl (cJ, 244, .inr (.inl (vp_updL (fun _ => 0) 0 1))))]) (wf := fun _ => wP0 q2) [3] [0, 1, 2] hA hK hl.1 hG B (c_X1_init l D cI cJ q2 _) ⟨va_cnB (host := "BlockMover") 0 hts gX2_init_X1_init_n18 rfl rfl rfl hN (hts (.initialized RX1) (by decide +kernel)) (by decide +kernel) ⟨by decide, by decide⟩, rfl, hts (.instanceMethod yX1_init) (by decide +kernel)⟩ rfl rfl rfl rfl (by decide) (Nat.le_of_ble_eq_true rfl) dX2_init_20 ⟨by decide, by decide⟩ (fun _ H locs hG => ?_)
  have hG : gG D A s.heap [(h0, .inr (2, [.ref q1, .null, .long 0, .int 0, .int 0])), (q1, .inr (0, [.ref q3, .int (-3), .int 0, .int 0])), (q3, .inl (cJ, 244, .inr (.inl (vp_updL (fun _ => 0) 0 1)))), (q2, .inr (1, [.int 0, .int 0, .int 0]))] H locs := hG
  refine g_putF hK hG B hinX2 tyX2_ok nmX2 0 rfl rfl 1 (by decide) m_19 rfl hini rfl rfl rfl rfl (Nat.le_of_ble_eq_true rfl) dX2_init_23 (fun H locs hG => ?_)
  have hG : gG D A s.heap [(h0, .inr (2, [.ref q1, .ref q2, .long 0, .int 0, .int 0])), (q1, .inr (0, [.ref q3, .int (-3), .int 0, .int 0])), (q3, .inl (cJ, 244, .inr (.inl (vp_updL (fun _ => 0) 0 1)))), (q2, .inr (1, [.int 0, .int 0, .int 0]))] H locs := hG
  obtain ⟨hP, hD, hS⟩ := hG
  have hP2 := hP.sub (ws' := wC h0 q1 q2 q3 cJ c0S) [0, 1, 3, 2] rfl
  have hD2 := hD.sub (ws' := wC h0 q1 q2 q3 cJ c0S) [0, 1, 3, 2] (by decide) rfl
  exact W.vret hx hb hr (fun t ht hW => ⟨⟨(q1, q2, q3), rfl, trivial, by rw [ht]; exact hP2, va_K.moved hW.alike hK, hD2⟩, hS.F ht⟩) hS.2.2 dX2_init_26 hlk

/-- a new reference's state -/
def r0S : RS := (upd (fun _ => 0) 0 1, fun _ => 0, fun _ => 0, fun _ => 0, fun _ => 0, 0, -3, 0, 0, 0, 0, 0, 0, 0, fun _ => 0, fun _ => 0)
abbrev wY0 (h0 : Nat) : va_W := [(h0, .inr (3, [.null, .null, .null, .null, .null, .int 0, .int 0, .int 0, .int 0, .int 0, .int 0, .int 0, .int 0, .long 0, .null, .null]))]
set_option maxHeartbeats 4000000 in
set_option maxRecDepth 100000 in
theorem c_X3_init (l : Launch) (D : va_G) (cI cJ : ClassId) (h0 sz : Nat) : Met l yX3_init wsX3_init { frames := 1, cells := 7, slots := 268, locals := 12 } (gPc D (gT cI cJ) sz (wY0 h0) [.ref h0]) (va_Qv (S := Nat × Nat × Nat × Nat × Nat × Nat × Nat) (fun _ => True) (fun u t => gB D (gT cI cJ) (va_A (wY0 h0) sz) (wR h0 u.1 u.2.1 u.2.2.1 u.2.2.2.1 u.2.2.2.2.1 u.2.2.2.2.2.1 u.2.2.2.2.2.2 cI cJ r0S) t) (va_A (wY0 h0) sz)) 7 268 (va_A (wY0 h0) sz) := by
  refine gMetC (cc := cX3_init) (maxL := 1) (ret := none) (by decide) rfl ?_ (Nat.le_of_ble_eq_true rfl)
  intro p e0 s m below meth c ls B hr hlk hnm hsz hK hG hl
  have hA : ∀ q : Nat, s.heap.size ≤ q → va_A (wY0 h0) sz q := fun q h => Or.inr (hsz ▸ h)
  have hx := B.1
  have hb := B.2.1
  have hts := B.2.2.2.2
  have hl : lv_has ls 1 [(0, .ref h0)] := hl
  have hini : meth.name = "<init>" := hnm
  generalize va_A (wY0 h0) sz = A at hA hG ⊢
  have hinX3 : ∀ x ∈ wsX30, x ∈ wsX3_init := by decide +kernel
  have m_aI : Cond.arrayClass .int ∈ wsX3_init := by decide +kernel
  have m_aJ : Cond.arrayClass .long ∈ wsX3_init := by decide +kernel
  have m_7 : Cond.fieldLink RX3 7 "BlockMoverModel" "kind" "[I" ∈ wsX3_init := by decide +kernel
  have m_13 : Cond.fieldLink RX3 13 "BlockMoverModel" "size" "[I" ∈ wsX3_init := by decide +kernel
  have m_16 : Cond.fieldLink RX3 16 "BlockMoverModel" "places" "[I" ∈ wsX3_init := by decide +kernel
  have m_19 : Cond.fieldLink RX3 19 "BlockMoverModel" "words" "[J" ∈ wsX3_init := by decide +kernel
  have m_23 : Cond.fieldLink RX3 23 "BlockMoverModel" "rec" "[I" ∈ wsX3_init := by decide +kernel
  have m_30 : Cond.fieldLink RX3 30 "BlockMoverModel" "open" "[I" ∈ wsX3_init := by decide +kernel
  have m_33 : Cond.fieldLink RX3 33 "BlockMoverModel" "latestName" "[I" ∈ wsX3_init := by decide +kernel
  have m_26 : Cond.fieldLink RX3 26 "BlockMoverModel" "left" "I" ∈ wsX3_init := by decide +kernel
  refine lv_aload_n hx hb dX3_init_0 rfl (lv_at hl 0 rfl) ?_
  refine W.objInit hx hb B.2.2.2.1 (hts (.methodLink RX3 1 objectInit) (by decide +kernel)) (hts (.instanceMethod objectInit) (by decide +kernel)) (hts _ (List.mem_cons_of_mem _ (List.mem_append_left _ (List.mem_of_getElem? (i := 2) rfl)))) rfl (by rw [B.2.2.1]; exact hl.1) rfl dX3_init_1 (Nat.le_of_ble_eq_true rfl) (Nat.le_of_ble_eq_true rfl) ?_
  refine W.eq (g2 := F0 m 4 ls []) rfl ?_
  refine lv_aload_n hx hb dX3_init_4 rfl (lv_at hl 0 rfl) ?_
  refine lv_bipush (v := 12) hx hb dX3_init_5 (by decide) ?_
  refine g_newI 12 hA hK hG B m_aI (by decide) (by decide) (by decide) (by decide) (by decide) dX3_init_7 (fun qk H hG => ?_)
  have hG : gG D A s.heap [(h0, .inr (3, [.null, .null, .null, .null, .null, .int 0, .int 0, .int 0, .int 0, .int 0, .int 0, .int 0, .int 0, .long 0, .null, .null])), (qk, .inl (cI, 12, .inl (fun _ => 0)))] H _ := hG
  refine g_putF hK hG B hinX3 tyX3_ok nmX3 0 rfl rfl 0 (by decide) m_7 rfl hini rfl rfl rfl rfl (Nat.le_of_ble_eq_true rfl) dX3_init_9 (fun H locs hG => ?_)
  have hG : gG D A s.heap [(h0, .inr (3, [.ref qk, .null, .null, .null, .null, .int 0, .int 0, .int 0, .int 0, .int 0, .int 0, .int 0, .int 0, .long 0, .null, .null])), (qk, .inl (cI, 12, .inl (fun _ => 0)))] H locs := hG
  refine lv_aload_n hx hb dX3_init_12 rfl (lv_at hl 0 rfl) ?_
  refine lv_bipush (v := 12) hx hb dX3_init_13 (by decide) ?_
  refine g_newI 12 hA hK hG B m_aI (by decide) (by decide) (by decide) (by decide) (by decide) dX3_init_15 (fun qs H hG => ?_)
  have hG : gG D A s.heap [(h0, .inr (3, [.ref qk, .null, .null, .null, .null, .int 0, .int 0, .int 0, .int 0, .int 0, .int 0, .int 0, .int 0, .long 0, .null, .null])), (qk, .inl (cI, 12, .inl (fun _ => 0))), (qs, .inl (cI, 12, .inl (fun _ => 0)))] H _ := hG
  refine g_putF hK hG B hinX3 tyX3_ok nmX3 0 rfl rfl 1 (by decide) m_13 rfl hini rfl rfl rfl rfl (Nat.le_of_ble_eq_true rfl) dX3_init_17 (fun H locs hG => ?_)
  have hG : gG D A s.heap [(h0, .inr (3, [.ref qk, .ref qs, .null, .null, .null, .int 0, .int 0, .int 0, .int 0, .int 0, .int 0, .int 0, .int 0, .long 0, .null, .null])), (qk, .inl (cI, 12, .inl (fun _ => 0))), (qs, .inl (cI, 12, .inl (fun _ => 0)))] H locs := hG
  refine lv_aload_n hx hb dX3_init_20 rfl (lv_at hl 0 rfl) ?_
  refine lv_bipush (v := 96) hx hb dX3_init_21 (by decide) ?_
  refine g_newI 96 hA hK hG B m_aI (by decide) (by decide) (by decide) (by decide) (by decide) dX3_init_23 (fun qp H hG => ?_)
  have hG : gG D A s.heap [(h0, .inr (3, [.ref qk, .ref qs, .null, .null, .null, .int 0, .int 0, .int 0, .int 0, .int 0, .int 0, .int 0, .int 0, .long 0, .null, .null])), (qk, .inl (cI, 12, .inl (fun _ => 0))), (qs, .inl (cI, 12, .inl (fun _ => 0))), (qp, .inl (cI, 96, .inl (fun _ => 0)))] H _ := hG
  refine g_putF hK hG B hinX3 tyX3_ok nmX3 0 rfl rfl 2 (by decide) m_16 rfl hini rfl rfl rfl rfl (Nat.le_of_ble_eq_true rfl) dX3_init_25 (fun H locs hG => ?_)
  have hG : gG D A s.heap [(h0, .inr (3, [.ref qk, .ref qs, .ref qp, .null, .null, .int 0, .int 0, .int 0, .int 0, .int 0, .int 0, .int 0, .int 0, .long 0, .null, .null])), (qk, .inl (cI, 12, .inl (fun _ => 0))), (qs, .inl (cI, 12, .inl (fun _ => 0))), (qp, .inl (cI, 96, .inl (fun _ => 0)))] H locs := hG
  refine lv_aload_n hx hb dX3_init_28 rfl (lv_at hl 0 rfl) ?_
  refine lv_bipush (v := 120) hx hb dX3_init_29 (by decide) ?_
  refine g_newL 120 hA hK hG B m_aJ (by decide) (by decide) (by decide) (by decide) (by decide) dX3_init_31 (fun qw H hG => ?_)
  have hG : gG D A s.heap [(h0, .inr (3, [.ref qk, .ref qs, .ref qp, .null, .null, .int 0, .int 0, .int 0, .int 0, .int 0, .int 0, .int 0, .int 0, .long 0, .null, .null])), (qk, .inl (cI, 12, .inl (fun _ => 0))), (qs, .inl (cI, 12, .inl (fun _ => 0))), (qp, .inl (cI, 96, .inl (fun _ => 0))), (qw, .inl (cJ, 120, .inr (.inl (fun _ => 0))))] H _ := hG
  refine g_putF hK hG B hinX3 tyX3_ok nmX3 0 rfl rfl 3 (by decide) m_19 rfl hini rfl rfl rfl rfl (Nat.le_of_ble_eq_true rfl) dX3_init_33 (fun H locs hG => ?_)
  have hG : gG D A s.heap [(h0, .inr (3, [.ref qk, .ref qs, .ref qp, .ref qw, .null, .int 0, .int 0, .int 0, .int 0, .int 0, .int 0, .int 0, .int 0, .long 0, .null, .null])), (qk, .inl (cI, 12, .inl (fun _ => 0))), (qs, .inl (cI, 12, .inl (fun _ => 0))), (qp, .inl (cI, 96, .inl (fun _ => 0))), (qw, .inl (cJ, 120, .inr (.inl (fun _ => 0))))] H locs := hG
  refine lv_aload_n hx hb dX3_init_36 rfl (lv_at hl 0 rfl) ?_
  refine lv_iconst (v := 4) hx hb dX3_init_37 (by decide) ?_
  refine g_newI 4 hA hK hG B m_aI (by decide) (by decide) (by decide) (by decide) (by decide) dX3_init_38 (fun qr H hG => ?_)
  have hG : gG D A s.heap [(h0, .inr (3, [.ref qk, .ref qs, .ref qp, .ref qw, .null, .int 0, .int 0, .int 0, .int 0, .int 0, .int 0, .int 0, .int 0, .long 0, .null, .null])), (qk, .inl (cI, 12, .inl (fun _ => 0))), (qs, .inl (cI, 12, .inl (fun _ => 0))), (qp, .inl (cI, 96, .inl (fun _ => 0))), (qw, .inl (cJ, 120, .inr (.inl (fun _ => 0)))), (qr, .inl (cI, 4, .inl (fun _ => 0)))] H _ := hG
  refine g_putF hK hG B hinX3 tyX3_ok nmX3 0 rfl rfl 4 (by decide) m_23 rfl hini rfl rfl rfl rfl (Nat.le_of_ble_eq_true rfl) dX3_init_40 (fun H locs hG => ?_)
  have hG : gG D A s.heap [(h0, .inr (3, [.ref qk, .ref qs, .ref qp, .ref qw, .ref qr, .int 0, .int 0, .int 0, .int 0, .int 0, .int 0, .int 0, .int 0, .long 0, .null, .null])), (qk, .inl (cI, 12, .inl (fun _ => 0))), (qs, .inl (cI, 12, .inl (fun _ => 0))), (qp, .inl (cI, 96, .inl (fun _ => 0))), (qw, .inl (cJ, 120, .inr (.inl (fun _ => 0)))), (qr, .inl (cI, 4, .inl (fun _ => 0)))] H locs := hG
  refine lv_aload_n hx hb dX3_init_43 rfl (lv_at hl 0 rfl) ?_
  refine lv_bipush (v := -3) hx hb dX3_init_44 (by decide) ?_
  refine g_put hK hG B hinX3 tyX3_ok nmX3 0 rfl rfl 6 (by decide) m_26 rfl rfl rfl rfl (Nat.le_of_ble_eq_true rfl) dX3_init_46 (fun H locs hG => ?_)
  have hG : gG D A s.heap [(h0, .inr (3, [.ref qk, .ref qs, .ref qp, .ref qw, .ref qr, .int 0, .int (-3), .int 0, .int 0, .int 0, .int 0, .int 0, .int 0, .long 0, .null, .null])), (qk, .inl (cI, 12, .inl (fun _ => 0))), (qs, .inl (cI, 12, .inl (fun _ => 0))), (qp, .inl (cI, 96, .inl (fun _ => 0))), (qw, .inl (cJ, 120, .inr (.inl (fun _ => 0)))), (qr, .inl (cI, 4, .inl (fun _ => 0)))] H locs := hG
  refine lv_aload_n hx hb dX3_init_49 rfl (lv_at hl 0 rfl) ?_
  refine lv_bipush (v := 12) hx hb dX3_init_50 (by decide) ?_
  refine g_newI 12 hA hK hG B m_aI (by decide) (by decide) (by decide) (by decide) (by decide) dX3_init_52 (fun qo H hG => ?_)
  have hG : gG D A s.heap [(h0, .inr (3, [.ref qk, .ref qs, .ref qp, .ref qw, .ref qr, .int 0, .int (-3), .int 0, .int 0, .int 0, .int 0, .int 0, .int 0, .long 0, .null, .null])), (qk, .inl (cI, 12, .inl (fun _ => 0))), (qs, .inl (cI, 12, .inl (fun _ => 0))), (qp, .inl (cI, 96, .inl (fun _ => 0))), (qw, .inl (cJ, 120, .inr (.inl (fun _ => 0)))), (qr, .inl (cI, 4, .inl (fun _ => 0))), (qo, .inl (cI, 12, .inl (fun _ => 0)))] H _ := hG
  refine g_putF hK hG B hinX3 tyX3_ok nmX3 0 rfl rfl 14 (by decide) m_30 rfl hini rfl rfl rfl rfl (Nat.le_of_ble_eq_true rfl) dX3_init_54 (fun H locs hG => ?_)
  have hG : gG D A s.heap [(h0, .inr (3, [.ref qk, .ref qs, .ref qp, .ref qw, .ref qr, .int 0, .int (-3), .int 0, .int 0, .int 0, .int 0, .int 0, .int 0, .long 0, .ref qo, .null])), (qk, .inl (cI, 12, .inl (fun _ => 0))), (qs, .inl (cI, 12, .inl (fun _ => 0))), (qp, .inl (cI, 96, .inl (fun _ => 0))), (qw, .inl (cJ, 120, .inr (.inl (fun _ => 0)))), (qr, .inl (cI, 4, .inl (fun _ => 0))), (qo, .inl (cI, 12, .inl (fun _ => 0)))] H locs := hG
  refine lv_aload_n hx hb dX3_init_57 rfl (lv_at hl 0 rfl) ?_
  refine lv_bipush (v := 12) hx hb dX3_init_58 (by decide) ?_
  refine g_newI 12 hA hK hG B m_aI (by decide) (by decide) (by decide) (by decide) (by decide) dX3_init_60 (fun qn H hG => ?_)
  have hG : gG D A s.heap [(h0, .inr (3, [.ref qk, .ref qs, .ref qp, .ref qw, .ref qr, .int 0, .int (-3), .int 0, .int 0, .int 0, .int 0, .int 0, .int 0, .long 0, .ref qo, .null])), (qk, .inl (cI, 12, .inl (fun _ => 0))), (qs, .inl (cI, 12, .inl (fun _ => 0))), (qp, .inl (cI, 96, .inl (fun _ => 0))), (qw, .inl (cJ, 120, .inr (.inl (fun _ => 0)))), (qr, .inl (cI, 4, .inl (fun _ => 0))), (qo, .inl (cI, 12, .inl (fun _ => 0))), (qn, .inl (cI, 12, .inl (fun _ => 0)))] H _ := hG
  refine g_putF hK hG B hinX3 tyX3_ok nmX3 0 rfl rfl 15 (by decide) m_33 rfl hini rfl rfl rfl rfl (Nat.le_of_ble_eq_true rfl) dX3_init_62 (fun H locs hG => ?_)
  have hG : gG D A s.heap [(h0, .inr (3, [.ref qk, .ref qs, .ref qp, .ref qw, .ref qr, .int 0, .int (-3), .int 0, .int 0, .int 0, .int 0, .int 0, .int 0, .long 0, .ref qo, .ref qn])), (qk, .inl (cI, 12, .inl (fun _ => 0))), (qs, .inl (cI, 12, .inl (fun _ => 0))), (qp, .inl (cI, 96, .inl (fun _ => 0))), (qw, .inl (cJ, 120, .inr (.inl (fun _ => 0)))), (qr, .inl (cI, 4, .inl (fun _ => 0))), (qo, .inl (cI, 12, .inl (fun _ => 0))), (qn, .inl (cI, 12, .inl (fun _ => 0)))] H locs := hG
  refine lv_aload_n hx hb dX3_init_65 rfl (lv_at hl 0 rfl) ?_
  refine g_get hK hG B hinX3 0 rfl rfl 0 (by decide) m_7 rfl dX3_init_66 ?_
  refine lv_iconst (v := 0) hx hb dX3_init_69 (by decide) ?_
  refine lv_iconst (v := 1) hx hb dX3_init_70 (by decide) ?_
  refine g_iast hK hG B 1 rfl (vp_in_nI (n := 0) (N := 12) (by omega) (by omega)) dX3_init_71 (fun H locs hG => ?_)
  have hG : gG D A s.heap [(h0, .inr (3, [.ref qk, .ref qs, .ref qp, .ref qw, .ref qr, .int 0, .int (-3), .int 0, .int 0, .int 0, .int 0, .int 0, .int 0, .long 0, .ref qo, .ref qn])), (qk, .inl (cI, 12, .inl (upd (fun _ => 0) 0 1))), (qs, .inl (cI, 12, .inl (fun _ => 0))), (qp, .inl (cI, 96, .inl (fun _ => 0))), (qw, .inl (cJ, 120, .inr (.inl (fun _ => 0)))), (qr, .inl (cI, 4, .inl (fun _ => 0))), (qo, .inl (cI, 12, .inl (fun _ => 0))), (qn, .inl (cI, 12, .inl (fun _ => 0)))] H locs := hG
  have hG : gG D A s.heap (wR h0 qk qs qp qw qr qo qn cI cJ r0S) H locs := hG
  obtain ⟨hP, hD, hS⟩ := hG
  exact W.vret hx hb hr (fun t ht hW => ⟨⟨(qk, qs, qp, qw, qr, qo, qn), rfl, trivial, by rw [ht]; exact hP, va_K.moved hW.alike hK, hD⟩, hS.F ht⟩) hS.2.2 dX3_init_72 hlk
