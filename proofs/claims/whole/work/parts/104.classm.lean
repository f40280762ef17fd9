def b_X2_copyMovedBlock_23 (y1_23 : Int32) (y2_23 : Int32) (y3_23 : Int32) (g23 : CS) : Option ((CS) ⊕ (Int32 × CS)) := (if (3 : Int32) ≤ y3_23 then some (.inl g23) else some (.inr ((y3_23 + (1 : Int32)), (f_X0_write (f_X2_dataAt y2_23 y3_23) (f_X0_word (f_X2_dataAt y1_23 y3_23) g23) g23))))
def f_X2_copyMovedBlock  (g : CS) : Option CS := ((itl (fun a : Int32 × CS => b_X2_copyMovedBlock_23 (f_X2_placeOf (f_X2_recorded (1 : Int32) g) (f_X2_recorded (2 : Int32) g) g) (f_X2_recorded (3 : Int32) g) a.1 a.2) 300 ((0 : Int32), g)).bind (fun ev_2 => some (f_X0_write (f_X2_recordAt (0 : Int32)) (2 : Int64) ev_2)))
set_option maxHeartbeats 4000000 in
set_option maxRecDepth 100000 in
theorem c_X2_copyMovedBlock (l : Launch) (D : va_G) (cI cJ : ClassId) (h0 q1 q2 q3 sz : Nat) (g : CS)  (g1 : CS) (hf : f_X2_copyMovedBlock  g = some g1) : Met l yX2_copyMovedBlock wsX2_copyMovedBlock { frames := 3, cells := 0, slots := 0, locals := 64 } (gPc D (gT cI cJ) sz (wC h0 q1 q2 q3 cJ g) [.ref h0]) (gQv D (gT cI cJ) (va_A (wC h0 q1 q2 q3 cJ g) sz) (wC h0 q1 q2 q3 cJ g1)) 0 0 (va_A (wC h0 q1 q2 q3 cJ g) sz) := by
  refine gMet (cc := cX2_copyMovedBlock) (maxL := 4) (ret := none) (by decide) rfl ?_ (Nat.le_of_ble_eq_true rfl)
  intro p e0 s m below meth c ls B hr hlk hsz hK hG hl
  have hA : ∀ q : Nat, s.heap.size ≤ q → va_A (wC h0 q1 q2 q3 cJ g) sz q := fun q h => Or.inr (hsz ▸ h)
  have hx := B.1
  have hb := B.2.1
  have hts := B.2.2.2.2
  have hl : lv_has ls 4 [(0, .ref h0)] := hl
  generalize va_A (wC h0 q1 q2 q3 cJ g) sz = A at hA hG ⊢
  have hinX2 : ∀ x ∈ wsX20, x ∈ wsX2_copyMovedBlock := by decide +kernel
  have m_12 : Cond.fieldLink RX2 12 "BlockMover" "disk" "LBlockMover$Disk;" ∈ wsX2_copyMovedBlock := by decide +kernel
  have L23 : ∀ (res : (CS)) (y1_23 : Int32) (y2_23 : Int32), (∀ (H1 : Heap) (locs1 : List Loc) (ls1 : Array Slot) (e : CS), res = e → gG D A s.heap (wC h0 q1 q2 q3 cJ e) H1 locs1 → lv_has ls1 4 [(0, .ref h0)] → W p l e0 { frames := 3, cells := 0, slots := 0, locals := 64 } s m ([.ref h0] : List Value).toArray below meth c H1 locs1 0 0 (MQ below (gQv D (gT cI cJ) A (wC h0 q1 q2 q3 cJ g1)) ([.ref h0] : List Value).toArray s 0 0 A) (F0 m 58 ls1 [])) → ∀ (n : Nat) (y3_23 : Int32) (g23 : CS) (H : Heap) (locs : List Loc) (ls : Array Slot), gG D A s.heap (wC h0 q1 q2 q3 cJ g23) H locs → lv_has ls 4 [(0, .ref h0), (1, .int y1_23), (2, .int y2_23), (3, .int y3_23)] → itl (fun a : Int32 × CS => b_X2_copyMovedBlock_23 y1_23 y2_23 a.1 a.2) n (y3_23, g23) = some res → W p l e0 { frames := 3, cells := 0, slots := 0, locals := 64 } s m ([.ref h0] : List Value).toArray below meth c H locs 0 0 (MQ below (gQv D (gT cI cJ) A (wC h0 q1 q2 q3 cJ g1)) ([.ref h0] : List Value).toArray s 0 0 A) (F0 m 23 ls []) := by
    intro res y1_23 y2_23 hKe23 n
    induction n with
    | zero => exact fun y3_23 g23 H locs ls hG hl hf => (itl_0 hf).elim
    | succ n ih =>
      intro y3_23 g23 H locs ls hG hl hf
      obtain ⟨o, hf, ho23, hn23⟩ := itl_s hf
      have hf : b_X2_copyMovedBlock_23 y1_23 y2_23 y3_23 g23 = some o := hf
      unfold b_X2_copyMovedBlock_23 at hf
      refine lv_iload_n hx hb dX2_copyMovedBlock_23 rfl (lv_at hl 3 rfl) ?_
      refine lv_iconst (v := 3) hx hb dX2_copyMovedBlock_24 (by decide) ?_
      refine lv_icmp_ge (tgt := 58) hx hb dX2_copyMovedBlock_25 (by decide) (fun cq_1 => ?_) (fun cq_1 => ?_)
      · have hf := ifT cq_1 hf
        have hres := ho23 _ (Option.some.inj hf).symm
        exact hKe23 _ _ _ g23 hres.symm hG (lv_sub hl [0] rfl)
      · have hf := ifF cq_1 hf
        refine lv_aload_n hx hb dX2_copyMovedBlock_28 rfl (lv_at hl 0 rfl) ?_
        refine g_get hK hG B hinX2 0 rfl rfl 0 (by decide) m_12 rfl dX2_copyMovedBlock_29 ?_
        refine lv_iload_n hx hb dX2_copyMovedBlock_32 rfl (lv_at hl 2 rfl) ?_
        refine lv_iload_n hx hb dX2_copyMovedBlock_33 rfl (lv_at hl 3 rfl) ?_
        refine gc_Si hA hK hl.1 hG B (c_X2_dataAt l D (gT cI cJ) _ (wC h0 q1 q2 q3 cJ g23) y2_23 y3_23 _ rfl) (va_cwS 2 hts gX2_copyMovedBlock_X2_dataAt rfl rfl rfl (by decide +kernel) ⟨by decide, by decide⟩) rfl rfl (Nat.le_of_ble_eq_true rfl) dX2_copyMovedBlock_34 ⟨Nat.zero_le _, Nat.zero_le _⟩ (fun H locs hG => ?_)
        refine lv_aload_n hx hb dX2_copyMovedBlock_37 rfl (lv_at hl 0 rfl) ?_
        refine g_get hK hG B hinX2 0 rfl rfl 0 (by decide) m_12 rfl dX2_copyMovedBlock_38 ?_
        refine lv_iload_n hx hb dX2_copyMovedBlock_41 rfl (lv_at hl 1 rfl) ?_
        refine lv_iload_n hx hb dX2_copyMovedBlock_42 rfl (lv_at hl 3 rfl) ?_
        refine gc_Si hA hK hl.1 hG B (c_X2_dataAt l D (gT cI cJ) _ (wC h0 q1 q2 q3 cJ g23) y1_23 y3_23 _ rfl) (va_cwS 2 hts gX2_copyMovedBlock_X2_dataAt rfl rfl rfl (by decide +kernel) ⟨by decide, by decide⟩) rfl rfl (Nat.le_of_ble_eq_true rfl) dX2_copyMovedBlock_43 ⟨Nat.zero_le _, Nat.zero_le _⟩ (fun H locs hG => ?_)
        refine gc_Vl hA hK hl.1 hG B (c_X0_word l D cI cJ h0 q1 q2 q3 _ g23 (f_X2_dataAt y1_23 y3_23) _ rfl) (cwV 1 hts gX2_copyMovedBlock_X0_word rfl rfl rfl (by decide +kernel) ⟨by decide, by decide⟩) 1 rfl rfl rfl rfl rfl (Nat.le_of_ble_eq_true rfl) dX2_copyMovedBlock_46 ⟨Nat.zero_le _, Nat.zero_le _⟩ (fun H locs hG => ?_)
        refine gc_Vv hA hK hl.1 hG B (c_X0_write l D cI cJ h0 q1 q2 q3 _ g23 (f_X2_dataAt y2_23 y3_23) (f_X0_word (f_X2_dataAt y1_23 y3_23) g23) _ rfl) (cwV 2 hts gX2_copyMovedBlock_X0_write rfl rfl rfl (by decide +kernel) ⟨by decide, by decide⟩) 1 rfl rfl rfl rfl rfl (Nat.le_of_ble_eq_true rfl) dX2_copyMovedBlock_49 ⟨Nat.zero_le _, Nat.zero_le _⟩ (fun H locs hG => ?_)
        refine lv_iinc (v := (y3_23 + (1 : Int32))) (lv' := [(3, .int (y3_23 + (1 : Int32))), (0, .ref h0), (1, .int y1_23), (2, .int y2_23)]) hx hb dX2_copyMovedBlock_52 hl (k := 3) rfl rfl (by decide) rfl (fun ls hl => ?_)
        refine lv_goto (tgt := 23) hx hb dX2_copyMovedBlock_55 (by decide) ?_
        have hn := hn23 _ (Option.some.inj hf).symm
        exact ih (y3_23 + (1 : Int32)) (f_X0_write (f_X2_dataAt y2_23 y3_23) (f_X0_word (f_X2_dataAt y1_23 y3_23) g23) g23) _ _ _ hG (lv_sub hl [1, 2, 3, 0] rfl) hn
  unfold f_X2_copyMovedBlock at hf
  refine lv_aload_n hx hb dX2_copyMovedBlock_0 rfl (lv_at hl 0 rfl) ?_
  refine lv_aload_n hx hb dX2_copyMovedBlock_1 rfl (lv_at hl 0 rfl) ?_
  refine lv_iconst (v := 1) hx hb dX2_copyMovedBlock_2 (by decide) ?_
  refine gc_Vi hA hK hl.1 hG B (c_X2_recorded l D cI cJ h0 q1 q2 q3 _ g (1 : Int32) _ rfl) (cwV 1 hts gX2_copyMovedBlock_X2_recorded rfl rfl rfl (by decide +kernel) ⟨by decide, by decide⟩) 0 rfl rfl rfl rfl rfl (Nat.le_of_ble_eq_true rfl) dX2_copyMovedBlock_3 ⟨Nat.zero_le _, Nat.zero_le _⟩ (fun H locs hG => ?_)
  refine lv_aload_n hx hb dX2_copyMovedBlock_6 rfl (lv_at hl 0 rfl) ?_
  refine lv_iconst (v := 2) hx hb dX2_copyMovedBlock_7 (by decide) ?_
  refine gc_Vi hA hK hl.1 hG B (c_X2_recorded l D cI cJ h0 q1 q2 q3 _ g (2 : Int32) _ rfl) (cwV 1 hts gX2_copyMovedBlock_X2_recorded rfl rfl rfl (by decide +kernel) ⟨by decide, by decide⟩) 0 rfl rfl rfl rfl rfl (Nat.le_of_ble_eq_true rfl) dX2_copyMovedBlock_8 ⟨Nat.zero_le _, Nat.zero_le _⟩ (fun H locs hG => ?_)
  refine gc_Vi hA hK hl.1 hG B (c_X2_placeOf l D cI cJ h0 q1 q2 q3 _ g (f_X2_recorded (1 : Int32) g) (f_X2_recorded (2 : Int32) g) _ rfl) (cwV 2 hts gX2_copyMovedBlock_X2_placeOf rfl rfl rfl (by decide +kernel) ⟨by decide, by decide⟩) 0 rfl rfl rfl rfl rfl (Nat.le_of_ble_eq_true rfl) dX2_copyMovedBlock_11 ⟨Nat.zero_le _, Nat.zero_le _⟩ (fun H locs hG => ?_)
  refine lv_istore_n (lv' := [(1, .int (f_X2_placeOf (f_X2_recorded (1 : Int32) g) (f_X2_recorded (2 : Int32) g) g)), (0, .ref h0)]) hx hb dX2_copyMovedBlock_14 rfl hl (by decide) rfl (fun ls hl => ?_)
  refine lv_aload_n hx hb dX2_copyMovedBlock_15 rfl (lv_at hl 1 rfl) ?_
  refine lv_iconst (v := 3) hx hb dX2_copyMovedBlock_16 (by decide) ?_
  refine gc_Vi hA hK hl.1 hG B (c_X2_recorded l D cI cJ h0 q1 q2 q3 _ g (3 : Int32) _ rfl) (cwV 1 hts gX2_copyMovedBlock_X2_recorded rfl rfl rfl (by decide +kernel) ⟨by decide, by decide⟩) 0 rfl rfl rfl rfl rfl (Nat.le_of_ble_eq_true rfl) dX2_copyMovedBlock_17 ⟨Nat.zero_le _, Nat.zero_le _⟩ (fun H locs hG => ?_)
  refine lv_istore_n (lv' := [(2, .int (f_X2_recorded (3 : Int32) g)), (1, .int (f_X2_placeOf (f_X2_recorded (1 : Int32) g) (f_X2_recorded (2 : Int32) g) g)), (0, .ref h0)]) hx hb dX2_copyMovedBlock_20 rfl hl (by decide) rfl (fun ls hl => ?_)
  refine lv_iconst (v := 0) hx hb dX2_copyMovedBlock_21 (by decide) ?_
  refine lv_istore_n (lv' := [(3, .int (0 : Int32)), (2, .int (f_X2_recorded (3 : Int32) g)), (1, .int (f_X2_placeOf (f_X2_recorded (1 : Int32) g) (f_X2_recorded (2 : Int32) g) g)), (0, .ref h0)]) hx hb dX2_copyMovedBlock_22 rfl hl (by decide) rfl (fun ls hl => ?_)
  obtain ⟨zv_2, hizv_2, hf⟩ := ob hf
  refine L23 zv_2 (f_X2_placeOf (f_X2_recorded (1 : Int32) g) (f_X2_recorded (2 : Int32) g) g) (f_X2_recorded (3 : Int32) g) (fun H locs ls ev_2 hres hG hl => ?_) 300 (0 : Int32) g _ _ _ hG (lv_sub hl [3, 2, 1, 0] rfl) hizv_2
  have hres := hres.symm
  subst hres
  refine lv_aload_n hx hb dX2_copyMovedBlock_58 rfl (lv_at hl 0 rfl) ?_
  refine g_get hK hG B hinX2 0 rfl rfl 0 (by decide) m_12 rfl dX2_copyMovedBlock_59 ?_
  refine lv_iconst (v := 0) hx hb dX2_copyMovedBlock_62 (by decide) ?_
  refine gc_Si hA hK hl.1 hG B (c_X2_recordAt l D (gT cI cJ) _ (wC h0 q1 q2 q3 cJ ev_2) (0 : Int32) _ rfl) (va_cwS 1 hts gX2_copyMovedBlock_X2_recordAt rfl rfl rfl (by decide +kernel) ⟨by decide, by decide⟩) rfl rfl (Nat.le_of_ble_eq_true rfl) dX2_copyMovedBlock_63 ⟨Nat.zero_le _, Nat.zero_le _⟩ (fun H locs hG => ?_)
  refine lv_ldc2 (v := 2) hx hb B.2.2.2.1 (hts (.constantLong RX2 210 (2)) (by decide +kernel)) dX2_copyMovedBlock_66 ?_
  refine gc_Vv hA hK hl.1 hG B (c_X0_write l D cI cJ h0 q1 q2 q3 _ ev_2 (f_X2_recordAt (0 : Int32)) (2 : Int64) _ rfl) (cwV 2 hts gX2_copyMovedBlock_X0_write rfl rfl rfl (by decide +kernel) ⟨by decide, by decide⟩) 1 rfl rfl rfl rfl rfl (Nat.le_of_ble_eq_true rfl) dX2_copyMovedBlock_69 ⟨Nat.zero_le _, Nat.zero_le _⟩ (fun H locs hG => ?_)
  have hf := Option.some.inj hf
  subst hf
  exact g_vret hr hlk hK hG B dX2_copyMovedBlock_72
def f_X2_linkMovedBlock  (g : CS) : CS := (if (C_down (f_X0_write (f_X2_recordAt (0 : Int32)) (0 : Int64) (f_X0_write (f_X2_placeAt (f_X2_recorded (1 : Int32) g) (f_X2_recorded (2 : Int32) g)) (f_X2_recorded (3 : Int32) g).toInt64 g))) = (0 : Int32) then (sC_mv ((C_mv (f_X0_write (f_X2_recordAt (0 : Int32)) (0 : Int64) (f_X0_write (f_X2_placeAt (f_X2_recorded (1 : Int32) g) (f_X2_recorded (2 : Int32) g)) (f_X2_recorded (3 : Int32) g).toInt64 g))) + (1 : Int32)) (f_X0_write (f_X2_recordAt (0 : Int32)) (0 : Int64) (f_X0_write (f_X2_placeAt (f_X2_recorded (1 : Int32) g) (f_X2_recorded (2 : Int32) g)) (f_X2_recorded (3 : Int32) g).toInt64 g))) else (f_X0_write (f_X2_recordAt (0 : Int32)) (0 : Int64) (f_X0_write (f_X2_placeAt (f_X2_recorded (1 : Int32) g) (f_X2_recorded (2 : Int32) g)) (f_X2_recorded (3 : Int32) g).toInt64 g)))
set_option maxHeartbeats 4000000 in
set_option maxRecDepth 100000 in
theorem c_X2_linkMovedBlock (l : Launch) (D : va_G) (cI cJ : ClassId) (h0 q1 q2 q3 sz : Nat) (g : CS)  (g1 : CS) (hf : f_X2_linkMovedBlock  g = g1) : Met l yX2_linkMovedBlock wsX2_linkMovedBlock { frames := 2, cells := 0, slots := 0, locals := 42 } (gPc D (gT cI cJ) sz (wC h0 q1 q2 q3 cJ g) [.ref h0]) (gQv D (gT cI cJ) (va_A (wC h0 q1 q2 q3 cJ g) sz) (wC h0 q1 q2 q3 cJ g1)) 0 0 (va_A (wC h0 q1 q2 q3 cJ g) sz) := by
  refine gMet (cc := cX2_linkMovedBlock) (maxL := 1) (ret := none) (by decide) rfl ?_ (Nat.le_of_ble_eq_true rfl)
  intro p e0 s m below meth c ls B hr hlk hsz hK hG hl
  have hA : ∀ q : Nat, s.heap.size ≤ q → va_A (wC h0 q1 q2 q3 cJ g) sz q := fun q h => Or.inr (hsz ▸ h)
  have hx := B.1
  have hb := B.2.1
  have hts := B.2.2.2.2
  have hl : lv_has ls 1 [(0, .ref h0)] := hl
  generalize va_A (wC h0 q1 q2 q3 cJ g) sz = A at hA hG ⊢
  have hinX0 : ∀ x ∈ wsX00, x ∈ wsX2_linkMovedBlock := by decide +kernel
  have hinX2 : ∀ x ∈ wsX20, x ∈ wsX2_linkMovedBlock := by decide +kernel
  have m_12 : Cond.fieldLink RX2 12 "BlockMover" "disk" "LBlockMover$Disk;" ∈ wsX2_linkMovedBlock := by decide +kernel
  have m_31 : Cond.fieldLink RX2 31 "BlockMover$Disk" "down" "Z" ∈ wsX2_linkMovedBlock := by decide +kernel
  have m_155 : Cond.fieldLink RX2 155 "BlockMover" "movesDone" "I" ∈ wsX2_linkMovedBlock := by decide +kernel
  unfold f_X2_linkMovedBlock at hf
  refine lv_aload_n hx hb dX2_linkMovedBlock_0 rfl (lv_at hl 0 rfl) ?_
  refine g_get hK hG B hinX2 0 rfl rfl 0 (by decide) m_12 rfl dX2_linkMovedBlock_1 ?_
  refine lv_aload_n hx hb dX2_linkMovedBlock_4 rfl (lv_at hl 0 rfl) ?_
  refine lv_iconst (v := 1) hx hb dX2_linkMovedBlock_5 (by decide) ?_
  refine gc_Vi hA hK hl.1 hG B (c_X2_recorded l D cI cJ h0 q1 q2 q3 _ g (1 : Int32) _ rfl) (cwV 1 hts gX2_linkMovedBlock_X2_recorded rfl rfl rfl (by decide +kernel) ⟨by decide, by decide⟩) 0 rfl rfl rfl rfl rfl (Nat.le_of_ble_eq_true rfl) dX2_linkMovedBlock_6 ⟨Nat.zero_le _, Nat.zero_le _⟩ (fun H locs hG => ?_)
  refine lv_aload_n hx hb dX2_linkMovedBlock_9 rfl (lv_at hl 0 rfl) ?_
  refine lv_iconst (v := 2) hx hb dX2_linkMovedBlock_10 (by decide) ?_
  refine gc_Vi hA hK hl.1 hG B (c_X2_recorded l D cI cJ h0 q1 q2 q3 _ g (2 : Int32) _ rfl) (cwV 1 hts gX2_linkMovedBlock_X2_recorded rfl rfl rfl (by decide +kernel) ⟨by decide, by decide⟩) 0 rfl rfl rfl rfl rfl (Nat.le_of_ble_eq_true rfl) dX2_linkMovedBlock_11 ⟨Nat.zero_le _, Nat.zero_le _⟩ (fun H locs hG => ?_)
  refine gc_Si hA hK hl.1 hG B (c_X2_placeAt l D (gT cI cJ) _ (wC h0 q1 q2 q3 cJ g) (f_X2_recorded (1 : Int32) g) (f_X2_recorded (2 : Int32) g) _ rfl) (va_cwS 2 hts gX2_linkMovedBlock_X2_placeAt rfl rfl rfl (by decide +kernel) ⟨by decide, by decide⟩) rfl rfl (Nat.le_of_ble_eq_true rfl) dX2_linkMovedBlock_14 ⟨Nat.zero_le _, Nat.zero_le _⟩ (fun H locs hG => ?_)
  refine lv_aload_n hx hb dX2_linkMovedBlock_17 rfl (lv_at hl 0 rfl) ?_
  refine lv_iconst (v := 3) hx hb dX2_linkMovedBlock_18 (by decide) ?_
  refine gc_Vi hA hK hl.1 hG B (c_X2_recorded l D cI cJ h0 q1 q2 q3 _ g (3 : Int32) _ rfl) (cwV 1 hts gX2_linkMovedBlock_X2_recorded rfl rfl rfl (by decide +kernel) ⟨by decide, by decide⟩) 0 rfl rfl rfl rfl rfl (Nat.le_of_ble_eq_true rfl) dX2_linkMovedBlock_19 ⟨Nat.zero_le _, Nat.zero_le _⟩ (fun H locs hG => ?_)
  refine lv_i2l hx hb dX2_linkMovedBlock_22 rfl ?_
  refine gc_Vv hA hK hl.1 hG B (c_X0_write l D cI cJ h0 q1 q2 q3 _ g (f_X2_placeAt (f_X2_recorded (1 : Int32) g) (f_X2_recorded (2 : Int32) g)) (f_X2_recorded (3 : Int32) g).toInt64 _ rfl) (cwV 2 hts gX2_linkMovedBlock_X0_write rfl rfl rfl (by decide +kernel) ⟨by decide, by decide⟩) 1 rfl rfl rfl rfl rfl (Nat.le_of_ble_eq_true rfl) dX2_linkMovedBlock_23 ⟨Nat.zero_le _, Nat.zero_le _⟩ (fun H locs hG => ?_)
  refine lv_aload_n hx hb dX2_linkMovedBlock_26 rfl (lv_at hl 0 rfl) ?_
  refine g_get hK hG B hinX2 0 rfl rfl 0 (by decide) m_12 rfl dX2_linkMovedBlock_27 ?_
  refine lv_iconst (v := 0) hx hb dX2_linkMovedBlock_30 (by decide) ?_
  refine gc_Si hA hK hl.1 hG B (c_X2_recordAt l D (gT cI cJ) _ (wC h0 q1 q2 q3 cJ (f_X0_write (f_X2_placeAt (f_X2_recorded (1 : Int32) g) (f_X2_recorded (2 : Int32) g)) (f_X2_recorded (3 : Int32) g).toInt64 g)) (0 : Int32) _ rfl) (va_cwS 1 hts gX2_linkMovedBlock_X2_recordAt rfl rfl rfl (by decide +kernel) ⟨by decide, by decide⟩) rfl rfl (Nat.le_of_ble_eq_true rfl) dX2_linkMovedBlock_31 ⟨Nat.zero_le _, Nat.zero_le _⟩ (fun H locs hG => ?_)
  refine lv_lconst (v := 0) hx hb dX2_linkMovedBlock_34 (by decide) ?_
  refine gc_Vv hA hK hl.1 hG B (c_X0_write l D cI cJ h0 q1 q2 q3 _ (f_X0_write (f_X2_placeAt (f_X2_recorded (1 : Int32) g) (f_X2_recorded (2 : Int32) g)) (f_X2_recorded (3 : Int32) g).toInt64 g) (f_X2_recordAt (0 : Int32)) (0 : Int64) _ rfl) (cwV 2 hts gX2_linkMovedBlock_X0_write rfl rfl rfl (by decide +kernel) ⟨by decide, by decide⟩) 1 rfl rfl rfl rfl rfl (Nat.le_of_ble_eq_true rfl) dX2_linkMovedBlock_35 ⟨Nat.zero_le _, Nat.zero_le _⟩ (fun H locs hG => ?_)
  refine lv_aload_n hx hb dX2_linkMovedBlock_38 rfl (lv_at hl 0 rfl) ?_
  refine g_get hK hG B hinX2 0 rfl rfl 0 (by decide) m_12 rfl dX2_linkMovedBlock_39 ?_
  refine g_get hK hG B hinX0 1 rfl rfl 3 (by decide) m_31 rfl dX2_linkMovedBlock_42 ?_
  refine lv_if_ne (tgt := 58) hx hb dX2_linkMovedBlock_45 (by decide) (fun cq_1 => ?_) (fun cq_1 => ?_)
  · have hf := ifF cq_1 hf
    subst hf
    exact g_vret hr hlk hK hG B dX2_linkMovedBlock_58
  · have hf := ifT cq_1 hf
    refine lv_aload_n hx hb dX2_linkMovedBlock_48 rfl (lv_at hl 0 rfl) ?_
    refine lv_dup hx hb dX2_linkMovedBlock_49 rfl ?_
    refine g_get hK hG B hinX2 0 rfl rfl 3 (by decide) m_155 rfl dX2_linkMovedBlock_50 ?_
    refine lv_iconst (v := 1) hx hb dX2_linkMovedBlock_53 (by decide) ?_
    refine lv_iadd hx hb dX2_linkMovedBlock_54 ?_
    refine gp_C_mv hK hG B hinX2 m_155 dX2_linkMovedBlock_55 (fun H locs hG => ?_)
    subst hf
    exact g_vret hr hlk hK hG B dX2_linkMovedBlock_58
def f_X2_step  (g : CS) : Option (Int32 × CS) := (if (C_down g) = (0 : Int32) then ((f_X2_findNextMove  g).bind (fun zv_2 => (if zv_2.1 = (-3 : Int32) then some ((0 : Int32), zv_2.2) else (if zv_2.1 = (-5 : Int32) then some ((-5 : Int32), zv_2.2) else ((f_X2_copyMovedBlock  (f_X0_write (f_X2_recordAt (0 : Int32)) (1 : Int64) (f_X0_write (f_X2_recordAt (3 : Int32)) (C_pt (f_X0_write (f_X2_recordAt (2 : Int32)) (C_pp (f_X0_write (f_X2_recordAt (1 : Int32)) (C_pi zv_2.2).toInt64 zv_2.2)).toInt64 (f_X0_write (f_X2_recordAt (1 : Int32)) (C_pi zv_2.2).toInt64 zv_2.2))).toInt64 (f_X0_write (f_X2_recordAt (2 : Int32)) (C_pp (f_X0_write (f_X2_recordAt (1 : Int32)) (C_pi zv_2.2).toInt64 zv_2.2)).toInt64 (f_X0_write (f_X2_recordAt (1 : Int32)) (C_pi zv_2.2).toInt64 zv_2.2))))).bind (fun zv_5 => some ((f_X2_answerOrDown (1 : Int32) (f_X2_linkMovedBlock  zv_5)), (f_X2_linkMovedBlock  zv_5)))))))) else some ((-2 : Int32), g))
set_option maxHeartbeats 4000000 in
set_option maxRecDepth 100000 in
theorem c_X2_step (l : Launch) (D : va_G) (cI cJ : ClassId) (h0 q1 q2 q3 sz : Nat) (g : CS)  (r : Int32) (g1 : CS) (hf : f_X2_step  g = some (r, g1)) : Met l yX2_step wsX2_step { frames := 6, cells := 0, slots := 0, locals := 139 } (gPc D (gT cI cJ) sz (wC h0 q1 q2 q3 cJ g) [.ref h0]) (gQi D (gT cI cJ) (va_A (wC h0 q1 q2 q3 cJ g) sz) r (wC h0 q1 q2 q3 cJ g1)) 0 0 (va_A (wC h0 q1 q2 q3 cJ g) sz) := by
  refine gMet (cc := cX2_step) (maxL := 2) (ret := (some .int)) (by decide) rfl ?_ (Nat.le_of_ble_eq_true rfl)
  intro p e0 s m below meth c ls B hr hlk hsz hK hG hl
  have hA : ∀ q : Nat, s.heap.size ≤ q → va_A (wC h0 q1 q2 q3 cJ g) sz q := fun q h => Or.inr (hsz ▸ h)
  have hx := B.1
  have hb := B.2.1
  have hts := B.2.2.2.2
  have hl : lv_has ls 2 [(0, .ref h0)] := hl
  generalize va_A (wC h0 q1 q2 q3 cJ g) sz = A at hA hG ⊢
  have hinX0 : ∀ x ∈ wsX00, x ∈ wsX2_step := by decide +kernel
  have hinX1 : ∀ x ∈ wsX10, x ∈ wsX2_step := by decide +kernel
  have hinX2 : ∀ x ∈ wsX20, x ∈ wsX2_step := by decide +kernel
  have m_12 : Cond.fieldLink RX2 12 "BlockMover" "disk" "LBlockMover$Disk;" ∈ wsX2_step := by decide +kernel
  have m_19 : Cond.fieldLink RX2 19 "BlockMover" "next" "LBlockMover$Plan;" ∈ wsX2_step := by decide +kernel
  have m_31 : Cond.fieldLink RX2 31 "BlockMover$Disk" "down" "Z" ∈ wsX2_step := by decide +kernel
  have m_109 : Cond.fieldLink RX2 109 "BlockMover$Plan" "inode" "I" ∈ wsX2_step := by decide +kernel
  have m_112 : Cond.fieldLink RX2 112 "BlockMover$Plan" "place" "I" ∈ wsX2_step := by decide +kernel
  have m_115 : Cond.fieldLink RX2 115 "BlockMover$Plan" "to" "I" ∈ wsX2_step := by decide +kernel
  unfold f_X2_step at hf
  refine lv_aload_n hx hb dX2_step_0 rfl (lv_at hl 0 rfl) ?_
  refine g_get hK hG B hinX2 0 rfl rfl 0 (by decide) m_12 rfl dX2_step_1 ?_
  refine g_get hK hG B hinX0 1 rfl rfl 3 (by decide) m_31 rfl dX2_step_4 ?_
  refine lv_if_eq (tgt := 13) hx hb dX2_step_7 (by decide) (fun cq_1 => ?_) (fun cq_1 => ?_)
  · have hf := ifT cq_1 hf
    refine lv_aload_n hx hb dX2_step_13 rfl (lv_at hl 0 rfl) ?_
    obtain ⟨zv_2, hqzv_2, hf⟩ := ob hf
    refine gc_Vi hA hK hl.1 hG B (c_X2_findNextMove l D cI cJ h0 q1 q2 q3 _ g  _ _ hqzv_2) (cwV 0 hts gX2_step_X2_findNextMove rfl rfl rfl (by decide +kernel) ⟨by decide, by decide⟩) 0 rfl rfl rfl rfl rfl (Nat.le_of_ble_eq_true rfl) dX2_step_14 ⟨Nat.zero_le _, Nat.zero_le _⟩ (fun H locs hG => ?_)
    refine lv_istore_n (lv' := [(1, .int zv_2.1), (0, .ref h0)]) hx hb dX2_step_17 rfl hl (by decide) rfl (fun ls hl => ?_)
    refine lv_iload_n hx hb dX2_step_18 rfl (lv_at hl 0 rfl) ?_
    refine lv_bipush (v := -3) hx hb dX2_step_19 (by decide) ?_
    refine lv_icmp_ne (tgt := 26) hx hb dX2_step_21 (by decide) (fun cq_3 => ?_) (fun cq_3 => ?_)
    · have hf := ifF cq_3 hf
      refine lv_iload_n hx hb dX2_step_26 rfl (lv_at hl 0 rfl) ?_
      refine lv_bipush (v := -5) hx hb dX2_step_27 (by decide) ?_
      refine lv_icmp_ne (tgt := 35) hx hb dX2_step_29 (by decide) (fun cq_4 => ?_) (fun cq_4 => ?_)
      · have hf := ifF cq_4 hf
        refine lv_aload_n hx hb dX2_step_35 rfl (lv_at hl 1 rfl) ?_
        refine g_get hK hG B hinX2 0 rfl rfl 0 (by decide) m_12 rfl dX2_step_36 ?_
        refine lv_iconst (v := 1) hx hb dX2_step_39 (by decide) ?_
        refine gc_Si hA hK hl.1 hG B (c_X2_recordAt l D (gT cI cJ) _ (wC h0 q1 q2 q3 cJ zv_2.2) (1 : Int32) _ rfl) (va_cwS 1 hts gX2_step_X2_recordAt rfl rfl rfl (by decide +kernel) ⟨by decide, by decide⟩) rfl rfl (Nat.le_of_ble_eq_true rfl) dX2_step_40 ⟨Nat.zero_le _, Nat.zero_le _⟩ (fun H locs hG => ?_)
        refine lv_aload_n hx hb dX2_step_43 rfl (lv_at hl 1 rfl) ?_
        refine g_get hK hG B hinX2 0 rfl rfl 1 (by decide) m_19 rfl dX2_step_44 ?_
        refine g_get hK hG B hinX1 2 rfl rfl 0 (by decide) m_109 rfl dX2_step_47 ?_
        refine lv_i2l hx hb dX2_step_50 rfl ?_
        refine gc_Vv hA hK hl.1 hG B (c_X0_write l D cI cJ h0 q1 q2 q3 _ zv_2.2 (f_X2_recordAt (1 : Int32)) (C_pi zv_2.2).toInt64 _ rfl) (cwV 2 hts gX2_step_X0_write rfl rfl rfl (by decide +kernel) ⟨by decide, by decide⟩) 1 rfl rfl rfl rfl rfl (Nat.le_of_ble_eq_true rfl) dX2_step_51 ⟨Nat.zero_le _, Nat.zero_le _⟩ (fun H locs hG => ?_)
        refine lv_aload_n hx hb dX2_step_54 rfl (lv_at hl 1 rfl) ?_
        refine g_get hK hG B hinX2 0 rfl rfl 0 (by decide) m_12 rfl dX2_step_55 ?_
        refine lv_iconst (v := 2) hx hb dX2_step_58 (by decide) ?_
        refine gc_Si hA hK hl.1 hG B (c_X2_recordAt l D (gT cI cJ) _ (wC h0 q1 q2 q3 cJ (f_X0_write (f_X2_recordAt (1 : Int32)) (C_pi zv_2.2).toInt64 zv_2.2)) (2 : Int32) _ rfl) (va_cwS 1 hts gX2_step_X2_recordAt rfl rfl rfl (by decide +kernel) ⟨by decide, by decide⟩) rfl rfl (Nat.le_of_ble_eq_true rfl) dX2_step_59 ⟨Nat.zero_le _, Nat.zero_le _⟩ (fun H locs hG => ?_)
        refine lv_aload_n hx hb dX2_step_62 rfl (lv_at hl 1 rfl) ?_
        refine g_get hK hG B hinX2 0 rfl rfl 1 (by decide) m_19 rfl dX2_step_63 ?_
        refine g_get hK hG B hinX1 2 rfl rfl 1 (by decide) m_112 rfl dX2_step_66 ?_
        refine lv_i2l hx hb dX2_step_69 rfl ?_
        refine gc_Vv hA hK hl.1 hG B (c_X0_write l D cI cJ h0 q1 q2 q3 _ (f_X0_write (f_X2_recordAt (1 : Int32)) (C_pi zv_2.2).toInt64 zv_2.2) (f_X2_recordAt (2 : Int32)) (C_pp (f_X0_write (f_X2_recordAt (1 : Int32)) (C_pi zv_2.2).toInt64 zv_2.2)).toInt64 _ rfl) (cwV 2 hts gX2_step_X0_write rfl rfl rfl (by decide +kernel) ⟨by decide, by decide⟩) 1 rfl rfl rfl rfl rfl (Nat.le_of_ble_eq_true rfl) dX2_step_70 ⟨Nat.zero_le _, Nat.zero_le _⟩ (fun H locs hG => ?_)
        refine lv_aload_n hx hb dX2_step_73 rfl (lv_at hl 1 rfl) ?_
        refine g_get hK hG B hinX2 0 rfl rfl 0 (by decide) m_12 rfl dX2_step_74 ?_
        refine lv_iconst (v := 3) hx hb dX2_step_77 (by decide) ?_
        refine gc_Si hA hK hl.1 hG B (c_X2_recordAt l D (gT cI cJ) _ (wC h0 q1 q2 q3 cJ (f_X0_write (f_X2_recordAt (2 : Int32)) (C_pp (f_X0_write (f_X2_recordAt (1 : Int32)) (C_pi zv_2.2).toInt64 zv_2.2)).toInt64 (f_X0_write (f_X2_recordAt (1 : Int32)) (C_pi zv_2.2).toInt64 zv_2.2))) (3 : Int32) _ rfl) (va_cwS 1 hts gX2_step_X2_recordAt rfl rfl rfl (by decide +kernel) ⟨by decide, by decide⟩) rfl rfl (Nat.le_of_ble_eq_true rfl) dX2_step_78 ⟨Nat.zero_le _, Nat.zero_le _⟩ (fun H locs hG => ?_)
        refine lv_aload_n hx hb dX2_step_81 rfl (lv_at hl 1 rfl) ?_
        refine g_get hK hG B hinX2 0 rfl rfl 1 (by decide) m_19 rfl dX2_step_82 ?_
        refine g_get hK hG B hinX1 2 rfl rfl 2 (by decide) m_115 rfl dX2_step_85 ?_
        refine lv_i2l hx hb dX2_step_88 rfl ?_
        refine gc_Vv hA hK hl.1 hG B (c_X0_write l D cI cJ h0 q1 q2 q3 _ (f_X0_write (f_X2_recordAt (2 : Int32)) (C_pp (f_X0_write (f_X2_recordAt (1 : Int32)) (C_pi zv_2.2).toInt64 zv_2.2)).toInt64 (f_X0_write (f_X2_recordAt (1 : Int32)) (C_pi zv_2.2).toInt64 zv_2.2)) (f_X2_recordAt (3 : Int32)) (C_pt (f_X0_write (f_X2_recordAt (2 : Int32)) (C_pp (f_X0_write (f_X2_recordAt (1 : Int32)) (C_pi zv_2.2).toInt64 zv_2.2)).toInt64 (f_X0_write (f_X2_recordAt (1 : Int32)) (C_pi zv_2.2).toInt64 zv_2.2))).toInt64 _ rfl) (cwV 2 hts gX2_step_X0_write rfl rfl rfl (by decide +kernel) ⟨by decide, by decide⟩) 1 rfl rfl rfl rfl rfl (Nat.le_of_ble_eq_true rfl) dX2_step_89 ⟨Nat.zero_le _, Nat.zero_le _⟩ (fun H locs hG => ?_)
        refine lv_aload_n hx hb dX2_step_92 rfl (lv_at hl 1 rfl) ?_
        refine g_get hK hG B hinX2 0 rfl rfl 0 (by decide) m_12 rfl dX2_step_93 ?_
        refine lv_iconst (v := 0) hx hb dX2_step_96 (by decide) ?_
        refine gc_Si hA hK hl.1 hG B (c_X2_recordAt l D (gT cI cJ) _ (wC h0 q1 q2 q3 cJ (f_X0_write (f_X2_recordAt (3 : Int32)) (C_pt (f_X0_write (f_X2_recordAt (2 : Int32)) (C_pp (f_X0_write (f_X2_recordAt (1 : Int32)) (C_pi zv_2.2).toInt64 zv_2.2)).toInt64 (f_X0_write (f_X2_recordAt (1 : Int32)) (C_pi zv_2.2).toInt64 zv_2.2))).toInt64 (f_X0_write (f_X2_recordAt (2 : Int32)) (C_pp (f_X0_write (f_X2_recordAt (1 : Int32)) (C_pi zv_2.2).toInt64 zv_2.2)).toInt64 (f_X0_write (f_X2_recordAt (1 : Int32)) (C_pi zv_2.2).toInt64 zv_2.2)))) (0 : Int32) _ rfl) (va_cwS 1 hts gX2_step_X2_recordAt rfl rfl rfl (by decide +kernel) ⟨by decide, by decide⟩) rfl rfl (Nat.le_of_ble_eq_true rfl) dX2_step_97 ⟨Nat.zero_le _, Nat.zero_le _⟩ (fun H locs hG => ?_)
        refine lv_lconst (v := 1) hx hb dX2_step_100 (by decide) ?_
        refine gc_Vv hA hK hl.1 hG B (c_X0_write l D cI cJ h0 q1 q2 q3 _ (f_X0_write (f_X2_recordAt (3 : Int32)) (C_pt (f_X0_write (f_X2_recordAt (2 : Int32)) (C_pp (f_X0_write (f_X2_recordAt (1 : Int32)) (C_pi zv_2.2).toInt64 zv_2.2)).toInt64 (f_X0_write (f_X2_recordAt (1 : Int32)) (C_pi zv_2.2).toInt64 zv_2.2))).toInt64 (f_X0_write (f_X2_recordAt (2 : Int32)) (C_pp (f_X0_write (f_X2_recordAt (1 : Int32)) (C_pi zv_2.2).toInt64 zv_2.2)).toInt64 (f_X0_write (f_X2_recordAt (1 : Int32)) (C_pi zv_2.2).toInt64 zv_2.2))) (f_X2_recordAt (0 : Int32)) (1 : Int64) _ rfl) (cwV 2 hts gX2_step_X0_write rfl rfl rfl (by decide +kernel) ⟨by decide, by decide⟩) 1 rfl rfl rfl rfl rfl (Nat.le_of_ble_eq_true rfl) dX2_step_101 ⟨Nat.zero_le _, Nat.zero_le _⟩ (fun H locs hG => ?_)
        refine lv_aload_n hx hb dX2_step_104 rfl (lv_at hl 1 rfl) ?_
        obtain ⟨zv_5, hqzv_5, hf⟩ := ob hf
        refine gc_Vv hA hK hl.1 hG B (c_X2_copyMovedBlock l D cI cJ h0 q1 q2 q3 _ (f_X0_write (f_X2_recordAt (0 : Int32)) (1 : Int64) (f_X0_write (f_X2_recordAt (3 : Int32)) (C_pt (f_X0_write (f_X2_recordAt (2 : Int32)) (C_pp (f_X0_write (f_X2_recordAt (1 : Int32)) (C_pi zv_2.2).toInt64 zv_2.2)).toInt64 (f_X0_write (f_X2_recordAt (1 : Int32)) (C_pi zv_2.2).toInt64 zv_2.2))).toInt64 (f_X0_write (f_X2_recordAt (2 : Int32)) (C_pp (f_X0_write (f_X2_recordAt (1 : Int32)) (C_pi zv_2.2).toInt64 zv_2.2)).toInt64 (f_X0_write (f_X2_recordAt (1 : Int32)) (C_pi zv_2.2).toInt64 zv_2.2))))  _ hqzv_5) (cwV 0 hts gX2_step_X2_copyMovedBlock rfl rfl rfl (by decide +kernel) ⟨by decide, by decide⟩) 0 rfl rfl rfl rfl rfl (Nat.le_of_ble_eq_true rfl) dX2_step_105 ⟨Nat.zero_le _, Nat.zero_le _⟩ (fun H locs hG => ?_)
        refine lv_aload_n hx hb dX2_step_108 rfl (lv_at hl 1 rfl) ?_
        refine gc_Vv hA hK hl.1 hG B (c_X2_linkMovedBlock l D cI cJ h0 q1 q2 q3 _ zv_5  _ rfl) (cwV 0 hts gX2_step_X2_linkMovedBlock rfl rfl rfl (by decide +kernel) ⟨by decide, by decide⟩) 0 rfl rfl rfl rfl rfl (Nat.le_of_ble_eq_true rfl) dX2_step_109 ⟨Nat.zero_le _, Nat.zero_le _⟩ (fun H locs hG => ?_)
        refine lv_aload_n hx hb dX2_step_112 rfl (lv_at hl 1 rfl) ?_
        refine lv_iconst (v := 1) hx hb dX2_step_113 (by decide) ?_
        refine gc_Vi hA hK hl.1 hG B (c_X2_answerOrDown l D cI cJ h0 q1 q2 q3 _ (f_X2_linkMovedBlock  zv_5) (1 : Int32) _ rfl) (cwV 1 hts gX2_step_X2_answerOrDown rfl rfl rfl (by decide +kernel) ⟨by decide, by decide⟩) 0 rfl rfl rfl rfl rfl (Nat.le_of_ble_eq_true rfl) dX2_step_114 ⟨Nat.zero_le _, Nat.zero_le _⟩ (fun H locs hG => ?_)
        have hf := Option.some.inj hf
        obtain ⟨e1, e2⟩ := Prod.mk.inj hf
        subst e2
        exact g_iret hr hlk hK hG B rfl e1 dX2_step_117
      · have hf := ifT cq_4 hf
        refine lv_bipush (v := -5) hx hb dX2_step_32 (by decide) ?_
        have hf := Option.some.inj hf
        obtain ⟨e1, e2⟩ := Prod.mk.inj hf
        subst e2
        exact g_iret hr hlk hK hG B rfl e1 dX2_step_34
    · have hf := ifT cq_3 hf
      refine lv_iconst (v := 0) hx hb dX2_step_24 (by decide) ?_
      have hf := Option.some.inj hf
      obtain ⟨e1, e2⟩ := Prod.mk.inj hf
      subst e2
      exact g_iret hr hlk hK hG B rfl e1 dX2_step_25
  · have hf := ifF cq_1 hf
    refine lv_bipush (v := -2) hx hb dX2_step_10 (by decide) ?_
    have hf := Option.some.inj hf
    obtain ⟨e1, e2⟩ := Prod.mk.inj hf
    subst e2
    exact g_iret hr hlk hK hG B rfl e1 dX2_step_12
def f_X2_finishRecordedMove  (g : CS) : Option CS := (if (f_X2_recorded (0 : Int32) g) = (1 : Int32) then ((f_X2_copyMovedBlock  g).bind (fun zv_3 => (if (f_X2_recorded (0 : Int32) g) = (0 : Int32) then some zv_3 else some (f_X2_linkMovedBlock  zv_3)))) else (if (f_X2_recorded (0 : Int32) g) = (0 : Int32) then some g else some (f_X2_linkMovedBlock  g)))
set_option maxHeartbeats 4000000 in
set_option maxRecDepth 100000 in
theorem c_X2_finishRecordedMove (l : Launch) (D : va_G) (cI cJ : ClassId) (h0 q1 q2 q3 sz : Nat) (g : CS)  (g1 : CS) (hf : f_X2_finishRecordedMove  g = some g1) : Met l yX2_finishRecordedMove wsX2_finishRecordedMove { frames := 4, cells := 0, slots := 0, locals := 87 } (gPc D (gT cI cJ) sz (wC h0 q1 q2 q3 cJ g) [.ref h0]) (gQv D (gT cI cJ) (va_A (wC h0 q1 q2 q3 cJ g) sz) (wC h0 q1 q2 q3 cJ g1)) 0 0 (va_A (wC h0 q1 q2 q3 cJ g) sz) := by
  refine gMet (cc := cX2_finishRecordedMove) (maxL := 2) (ret := none) (by decide) rfl ?_ (Nat.le_of_ble_eq_true rfl)
  intro p e0 s m below meth c ls B hr hlk hsz hK hG hl
  have hA : ∀ q : Nat, s.heap.size ≤ q → va_A (wC h0 q1 q2 q3 cJ g) sz q := fun q h => Or.inr (hsz ▸ h)
  have hx := B.1
  have hb := B.2.1
  have hts := B.2.2.2.2
  have hl : lv_has ls 2 [(0, .ref h0)] := hl
  generalize va_A (wC h0 q1 q2 q3 cJ g) sz = A at hA hG ⊢
  unfold f_X2_finishRecordedMove at hf
  refine lv_aload_n hx hb dX2_finishRecordedMove_0 rfl (lv_at hl 0 rfl) ?_
  refine lv_iconst (v := 0) hx hb dX2_finishRecordedMove_1 (by decide) ?_
  refine gc_Vi hA hK hl.1 hG B (c_X2_recorded l D cI cJ h0 q1 q2 q3 _ g (0 : Int32) _ rfl) (cwV 1 hts gX2_finishRecordedMove_X2_recorded rfl rfl rfl (by decide +kernel) ⟨by decide, by decide⟩) 0 rfl rfl rfl rfl rfl (Nat.le_of_ble_eq_true rfl) dX2_finishRecordedMove_2 ⟨Nat.zero_le _, Nat.zero_le _⟩ (fun H locs hG => ?_)
  refine lv_istore_n (lv' := [(1, .int (f_X2_recorded (0 : Int32) g)), (0, .ref h0)]) hx hb dX2_finishRecordedMove_5 rfl hl (by decide) rfl (fun ls hl => ?_)
  refine lv_iload_n hx hb dX2_finishRecordedMove_6 rfl (lv_at hl 0 rfl) ?_
  refine lv_iconst (v := 1) hx hb dX2_finishRecordedMove_7 (by decide) ?_
  refine lv_icmp_ne (tgt := 15) hx hb dX2_finishRecordedMove_8 (by decide) (fun cq_1 => ?_) (fun cq_1 => ?_)
  · have hf := ifF cq_1 hf
    refine lv_iload_n hx hb dX2_finishRecordedMove_15 rfl (lv_at hl 0 rfl) ?_
    refine lv_if_eq (tgt := 23) hx hb dX2_finishRecordedMove_16 (by decide) (fun cq_2 => ?_) (fun cq_2 => ?_)
    · have hf := ifT cq_2 hf
      have hf := Option.some.inj hf
      subst hf
      exact g_vret hr hlk hK hG B dX2_finishRecordedMove_23
    · have hf := ifF cq_2 hf
      refine lv_aload_n hx hb dX2_finishRecordedMove_19 rfl (lv_at hl 1 rfl) ?_
      refine gc_Vv hA hK hl.1 hG B (c_X2_linkMovedBlock l D cI cJ h0 q1 q2 q3 _ g  _ rfl) (cwV 0 hts gX2_finishRecordedMove_X2_linkMovedBlock rfl rfl rfl (by decide +kernel) ⟨by decide, by decide⟩) 0 rfl rfl rfl rfl rfl (Nat.le_of_ble_eq_true rfl) dX2_finishRecordedMove_20 ⟨Nat.zero_le _, Nat.zero_le _⟩ (fun H locs hG => ?_)
      have hf := Option.some.inj hf
      subst hf
      exact g_vret hr hlk hK hG B dX2_finishRecordedMove_23
  · have hf := ifT cq_1 hf
    refine lv_aload_n hx hb dX2_finishRecordedMove_11 rfl (lv_at hl 1 rfl) ?_
    obtain ⟨zv_3, hqzv_3, hf⟩ := ob hf
    refine gc_Vv hA hK hl.1 hG B (c_X2_copyMovedBlock l D cI cJ h0 q1 q2 q3 _ g  _ hqzv_3) (cwV 0 hts gX2_finishRecordedMove_X2_copyMovedBlock rfl rfl rfl (by decide +kernel) ⟨by decide, by decide⟩) 0 rfl rfl rfl rfl rfl (Nat.le_of_ble_eq_true rfl) dX2_finishRecordedMove_12 ⟨Nat.zero_le _, Nat.zero_le _⟩ (fun H locs hG => ?_)
    refine lv_iload_n hx hb dX2_finishRecordedMove_15 rfl (lv_at hl 0 rfl) ?_
    refine lv_if_eq (tgt := 23) hx hb dX2_finishRecordedMove_16 (by decide) (fun cq_4 => ?_) (fun cq_4 => ?_)
    · have hf := ifT cq_4 hf
      have hf := Option.some.inj hf
      subst hf
      exact g_vret hr hlk hK hG B dX2_finishRecordedMove_23
    · have hf := ifF cq_4 hf
      refine lv_aload_n hx hb dX2_finishRecordedMove_19 rfl (lv_at hl 1 rfl) ?_
      refine gc_Vv hA hK hl.1 hG B (c_X2_linkMovedBlock l D cI cJ h0 q1 q2 q3 _ zv_3  _ rfl) (cwV 0 hts gX2_finishRecordedMove_X2_linkMovedBlock rfl rfl rfl (by decide +kernel) ⟨by decide, by decide⟩) 0 rfl rfl rfl rfl rfl (Nat.le_of_ble_eq_true rfl) dX2_finishRecordedMove_20 ⟨Nat.zero_le _, Nat.zero_le _⟩ (fun H locs hG => ?_)
      have hf := Option.some.inj hf
      subst hf
      exact g_vret hr hlk hK hG B dX2_finishRecordedMove_23
def f_X2_meet (x1 : Int32) (g : CS) : (Int32 × CS) := (if (f_X2_kindOf x1 g) = (0 : Int32) then ((0 : Int32), g) else (if (((C_met g) >>> (x1 &&& 31)) &&& (1 : Int32)) = (1 : Int32) then ((0 : Int32), g) else ((1 : Int32), (sC_met ((C_met g) ||| ((1 : Int32) <<< (x1 &&& 31))) g))))
set_option maxHeartbeats 4000000 in
set_option maxRecDepth 100000 in
theorem c_X2_meet (l : Launch) (D : va_G) (cI cJ : ClassId) (h0 q1 q2 q3 sz : Nat) (g : CS) (x1 : Int32) (r : Int32) (g1 : CS) (hf : f_X2_meet x1 g = (r, g1)) : Met l yX2_meet wsX2_meet { frames := 2, cells := 0, slots := 0, locals := 42 } (gPc D (gT cI cJ) sz (wC h0 q1 q2 q3 cJ g) [.ref h0, .int x1]) (gQi D (gT cI cJ) (va_A (wC h0 q1 q2 q3 cJ g) sz) r (wC h0 q1 q2 q3 cJ g1)) 0 0 (va_A (wC h0 q1 q2 q3 cJ g) sz) := by
  refine gMet (cc := cX2_meet) (maxL := 2) (ret := (some .boolean)) (by decide) rfl ?_ (Nat.le_of_ble_eq_true rfl)
  intro p e0 s m below meth c ls B hr hlk hsz hK hG hl
  have hA : ∀ q : Nat, s.heap.size ≤ q → va_A (wC h0 q1 q2 q3 cJ g) sz q := fun q h => Or.inr (hsz ▸ h)
  have hx := B.1
  have hb := B.2.1
  have hts := B.2.2.2.2
  have hl : lv_has ls 2 [(0, .ref h0), (1, .int x1)] := hl
  generalize va_A (wC h0 q1 q2 q3 cJ g) sz = A at hA hG ⊢
  have hinX2 : ∀ x ∈ wsX20, x ∈ wsX2_meet := by decide +kernel
  have m_164 : Cond.fieldLink RX2 164 "BlockMover" "inodesMet" "I" ∈ wsX2_meet := by decide +kernel
  unfold f_X2_meet at hf
  refine lv_aload_n hx hb dX2_meet_0 rfl (lv_at hl 0 rfl) ?_
  refine lv_iload_n hx hb dX2_meet_1 rfl (lv_at hl 1 rfl) ?_
  refine gc_Vi hA hK hl.1 hG B (c_X2_kindOf l D cI cJ h0 q1 q2 q3 _ g x1 _ rfl) (cwV 1 hts gX2_meet_X2_kindOf rfl rfl rfl (by decide +kernel) ⟨by decide, by decide⟩) 0 rfl rfl rfl rfl rfl (Nat.le_of_ble_eq_true rfl) dX2_meet_2 ⟨Nat.zero_le _, Nat.zero_le _⟩ (fun H locs hG => ?_)
  refine lv_if_eq (tgt := 20) hx hb dX2_meet_5 (by decide) (fun cq_1 => ?_) (fun cq_1 => ?_)
  · have hf := ifT cq_1 hf
    refine lv_iconst (v := 0) hx hb dX2_meet_20 (by decide) ?_
    obtain ⟨e1, e2⟩ := Prod.mk.inj hf
    subst e2
    exact g_iret hr hlk hK hG B rfl e1 dX2_meet_21
  · have hf := ifF cq_1 hf
    refine lv_aload_n hx hb dX2_meet_8 rfl (lv_at hl 0 rfl) ?_
    refine g_get hK hG B hinX2 0 rfl rfl 4 (by decide) m_164 rfl dX2_meet_9 ?_
    refine lv_iload_n hx hb dX2_meet_12 rfl (lv_at hl 1 rfl) ?_
    refine lv_ishr hx hb dX2_meet_13 ?_
    refine lv_iconst (v := 1) hx hb dX2_meet_14 (by decide) ?_
    refine lv_iand hx hb dX2_meet_15 ?_
    refine lv_iconst (v := 1) hx hb dX2_meet_16 (by decide) ?_
    refine lv_icmp_ne (tgt := 22) hx hb dX2_meet_17 (by decide) (fun cq_2 => ?_) (fun cq_2 => ?_)
    · have hf := ifF cq_2 hf
      refine lv_aload_n hx hb dX2_meet_22 rfl (lv_at hl 0 rfl) ?_
      refine lv_dup hx hb dX2_meet_23 rfl ?_
      refine g_get hK hG B hinX2 0 rfl rfl 4 (by decide) m_164 rfl dX2_meet_24 ?_
      refine lv_iconst (v := 1) hx hb dX2_meet_27 (by decide) ?_
      refine lv_iload_n hx hb dX2_meet_28 rfl (lv_at hl 1 rfl) ?_
      refine lv_ishl hx hb dX2_meet_29 ?_
      refine lv_ior hx hb dX2_meet_30 ?_
      refine gp_C_met hK hG B hinX2 m_164 dX2_meet_31 (fun H locs hG => ?_)
      refine lv_iconst (v := 1) hx hb dX2_meet_34 (by decide) ?_
      obtain ⟨e1, e2⟩ := Prod.mk.inj hf
      subst e2
      exact g_iret hr hlk hK hG B rfl e1 dX2_meet_35
    · have hf := ifT cq_2 hf
      refine lv_iconst (v := 0) hx hb dX2_meet_20 (by decide) ?_
      obtain ⟨e1, e2⟩ := Prod.mk.inj hf
      subst e2
      exact g_iret hr hlk hK hG B rfl e1 dX2_meet_21
def b_X2_clearWrongEntriesOf_2 (y1_2 : Int32) (y2_2 : Int32) (g2 : CS) : Option ((CS) ⊕ (Int32 × CS)) := (if (8 : Int32) ≤ y2_2 then some (.inl g2) else (if (f_X2_placeOf y1_2 y2_2 g2) = (0 : Int32) then some (.inr ((y2_2 + (1 : Int32)), g2)) else (if (f_X2_meet (f_X2_inodeOfEntry (f_X2_placeOf y1_2 y2_2 g2)) g2).1 = (0 : Int32) then some (.inr ((y2_2 + (1 : Int32)), (f_X0_write (f_X2_placeAt y1_2 y2_2) (0 : Int64) (f_X2_meet (f_X2_inodeOfEntry (f_X2_placeOf y1_2 y2_2 g2)) g2).2))) else some (.inr ((y2_2 + (1 : Int32)), (f_X2_meet (f_X2_inodeOfEntry (f_X2_placeOf y1_2 y2_2 g2)) g2).2)))))
def f_X2_clearWrongEntriesOf (x1 : Int32) (g : CS) : Option CS := ((itl (fun a : Int32 × CS => b_X2_clearWrongEntriesOf_2 x1 a.1 a.2) 300 ((0 : Int32), g)).bind (fun ev_4 => some ev_4))
set_option maxHeartbeats 4000000 in
set_option maxRecDepth 100000 in
theorem c_X2_clearWrongEntriesOf (l : Launch) (D : va_G) (cI cJ : ClassId) (h0 q1 q2 q3 sz : Nat) (g : CS) (x1 : Int32) (g1 : CS) (hf : f_X2_clearWrongEntriesOf x1 g = some g1) : Met l yX2_clearWrongEntriesOf wsX2_clearWrongEntriesOf { frames := 3, cells := 0, slots := 0, locals := 64 } (gPc D (gT cI cJ) sz (wC h0 q1 q2 q3 cJ g) [.ref h0, .int x1]) (gQv D (gT cI cJ) (va_A (wC h0 q1 q2 q3 cJ g) sz) (wC h0 q1 q2 q3 cJ g1)) 0 0 (va_A (wC h0 q1 q2 q3 cJ g) sz) := by
  refine gMet (cc := cX2_clearWrongEntriesOf) (maxL := 4) (ret := none) (by decide) rfl ?_ (Nat.le_of_ble_eq_true rfl)
  intro p e0 s m below meth c ls B hr hlk hsz hK hG hl
  have hA : ∀ q : Nat, s.heap.size ≤ q → va_A (wC h0 q1 q2 q3 cJ g) sz q := fun q h => Or.inr (hsz ▸ h)
  have hx := B.1
  have hb := B.2.1
  have hts := B.2.2.2.2
  have hl : lv_has ls 4 [(0, .ref h0), (1, .int x1)] := hl
  generalize va_A (wC h0 q1 q2 q3 cJ g) sz = A at hA hG ⊢
  have hinX2 : ∀ x ∈ wsX20, x ∈ wsX2_clearWrongEntriesOf := by decide +kernel
  have m_12 : Cond.fieldLink RX2 12 "BlockMover" "disk" "LBlockMover$Disk;" ∈ wsX2_clearWrongEntriesOf := by decide +kernel
  have L2 : ∀ (res : (CS)) (y1_2 : Int32), (∀ (H1 : Heap) (locs1 : List Loc) (ls1 : Array Slot) (e : CS), res = e → gG D A s.heap (wC h0 q1 q2 q3 cJ e) H1 locs1 → lv_has ls1 4 [] → W p l e0 { frames := 3, cells := 0, slots := 0, locals := 64 } s m ([.ref h0, .int x1] : List Value).toArray below meth c H1 locs1 0 0 (MQ below (gQv D (gT cI cJ) A (wC h0 q1 q2 q3 cJ g1)) ([.ref h0, .int x1] : List Value).toArray s 0 0 A) (F0 m 49 ls1 [])) → ∀ (n : Nat) (y2_2 : Int32) (g2 : CS) (H : Heap) (locs : List Loc) (ls : Array Slot), gG D A s.heap (wC h0 q1 q2 q3 cJ g2) H locs → lv_has ls 4 [(0, .ref h0), (1, .int y1_2), (2, .int y2_2)] → itl (fun a : Int32 × CS => b_X2_clearWrongEntriesOf_2 y1_2 a.1 a.2) n (y2_2, g2) = some res → W p l e0 { frames := 3, cells := 0, slots := 0, locals := 64 } s m ([.ref h0, .int x1] : List Value).toArray below meth c H locs 0 0 (MQ below (gQv D (gT cI cJ) A (wC h0 q1 q2 q3 cJ g1)) ([.ref h0, .int x1] : List Value).toArray s 0 0 A) (F0 m 2 ls []) := by
    intro res y1_2 hKe2 n
    induction n with
    | zero => exact fun y2_2 g2 H locs ls hG hl hf => (itl_0 hf).elim
    | succ n ih =>
      intro y2_2 g2 H locs ls hG hl hf
      obtain ⟨o, hf, ho2, hn2⟩ := itl_s hf
      have hf : b_X2_clearWrongEntriesOf_2 y1_2 y2_2 g2 = some o := hf
      unfold b_X2_clearWrongEntriesOf_2 at hf
      refine lv_iload_n hx hb dX2_clearWrongEntriesOf_2 rfl (lv_at hl 2 rfl) ?_
      refine lv_bipush (v := 8) hx hb dX2_clearWrongEntriesOf_3 (by decide) ?_
      refine lv_icmp_ge (tgt := 49) hx hb dX2_clearWrongEntriesOf_5 (by decide) (fun cq_1 => ?_) (fun cq_1 => ?_)
      · have hf := ifT cq_1 hf
        have hres := ho2 _ (Option.some.inj hf).symm
        exact hKe2 _ _ _ g2 hres.symm hG (lv_sub hl [] rfl)
      · have hf := ifF cq_1 hf
        refine lv_aload_n hx hb dX2_clearWrongEntriesOf_8 rfl (lv_at hl 0 rfl) ?_
        refine lv_iload_n hx hb dX2_clearWrongEntriesOf_9 rfl (lv_at hl 1 rfl) ?_
        refine lv_iload_n hx hb dX2_clearWrongEntriesOf_10 rfl (lv_at hl 2 rfl) ?_
        refine gc_Vi hA hK hl.1 hG B (c_X2_placeOf l D cI cJ h0 q1 q2 q3 _ g2 y1_2 y2_2 _ rfl) (cwV 2 hts gX2_clearWrongEntriesOf_X2_placeOf rfl rfl rfl (by decide +kernel) ⟨by decide, by decide⟩) 0 rfl rfl rfl rfl rfl (Nat.le_of_ble_eq_true rfl) dX2_clearWrongEntriesOf_11 ⟨Nat.zero_le _, Nat.zero_le _⟩ (fun H locs hG => ?_)
        refine lv_istore_n (lv' := [(3, .int (f_X2_placeOf y1_2 y2_2 g2)), (0, .ref h0), (1, .int y1_2), (2, .int y2_2)]) hx hb dX2_clearWrongEntriesOf_14 rfl hl (by decide) rfl (fun ls hl => ?_)
        refine lv_iload_n hx hb dX2_clearWrongEntriesOf_15 rfl (lv_at hl 0 rfl) ?_
        refine lv_if_eq (tgt := 43) hx hb dX2_clearWrongEntriesOf_16 (by decide) (fun cq_2 => ?_) (fun cq_2 => ?_)
        · have hf := ifT cq_2 hf
          refine lv_iinc (v := (y2_2 + (1 : Int32))) (lv' := [(2, .int (y2_2 + (1 : Int32))), (3, .int (f_X2_placeOf y1_2 y2_2 g2)), (0, .ref h0), (1, .int y1_2)]) hx hb dX2_clearWrongEntriesOf_43 hl (k := 3) rfl rfl (by decide) rfl (fun ls hl => ?_)
          refine lv_goto (tgt := 2) hx hb dX2_clearWrongEntriesOf_46 (by decide) ?_
          have hn := hn2 _ (Option.some.inj hf).symm
          exact ih (y2_2 + (1 : Int32)) g2 _ _ _ hG (lv_sub hl [2, 3, 0] rfl) hn
        · have hf := ifF cq_2 hf
          refine lv_aload_n hx hb dX2_clearWrongEntriesOf_19 rfl (lv_at hl 1 rfl) ?_
          refine lv_iload_n hx hb dX2_clearWrongEntriesOf_20 rfl (lv_at hl 0 rfl) ?_
          refine gc_Si hA hK hl.1 hG B (c_X2_inodeOfEntry l D (gT cI cJ) _ (wC h0 q1 q2 q3 cJ g2) (f_X2_placeOf y1_2 y2_2 g2) _ rfl) (va_cwS 1 hts gX2_clearWrongEntriesOf_X2_inodeOfEntry rfl rfl rfl (by decide +kernel) ⟨by decide, by decide⟩) rfl rfl (Nat.le_of_ble_eq_true rfl) dX2_clearWrongEntriesOf_21 ⟨Nat.zero_le _, Nat.zero_le _⟩ (fun H locs hG => ?_)
          refine gc_Vi hA hK hl.1 hG B (c_X2_meet l D cI cJ h0 q1 q2 q3 _ g2 (f_X2_inodeOfEntry (f_X2_placeOf y1_2 y2_2 g2)) _ _ rfl) (cwV 1 hts gX2_clearWrongEntriesOf_X2_meet rfl rfl rfl (by decide +kernel) ⟨by decide, by decide⟩) 0 rfl rfl rfl rfl rfl (Nat.le_of_ble_eq_true rfl) dX2_clearWrongEntriesOf_24 ⟨Nat.zero_le _, Nat.zero_le _⟩ (fun H locs hG => ?_)
          refine lv_if_ne (tgt := 43) hx hb dX2_clearWrongEntriesOf_27 (by decide) (fun cq_3 => ?_) (fun cq_3 => ?_)
          · have hf := ifF cq_3 hf
            refine lv_iinc (v := (y2_2 + (1 : Int32))) (lv' := [(2, .int (y2_2 + (1 : Int32))), (3, .int (f_X2_placeOf y1_2 y2_2 g2)), (0, .ref h0), (1, .int y1_2)]) hx hb dX2_clearWrongEntriesOf_43 hl (k := 3) rfl rfl (by decide) rfl (fun ls hl => ?_)
            refine lv_goto (tgt := 2) hx hb dX2_clearWrongEntriesOf_46 (by decide) ?_
            have hn := hn2 _ (Option.some.inj hf).symm
            exact ih (y2_2 + (1 : Int32)) (f_X2_meet (f_X2_inodeOfEntry (f_X2_placeOf y1_2 y2_2 g2)) g2).2 _ _ _ hG (lv_sub hl [2, 3, 0] rfl) hn
          · have hf := ifT cq_3 hf
            refine lv_aload_n hx hb dX2_clearWrongEntriesOf_30 rfl (lv_at hl 1 rfl) ?_
            refine g_get hK hG B hinX2 0 rfl rfl 0 (by decide) m_12 rfl dX2_clearWrongEntriesOf_31 ?_
            refine lv_iload_n hx hb dX2_clearWrongEntriesOf_34 rfl (lv_at hl 2 rfl) ?_
            refine lv_iload_n hx hb dX2_clearWrongEntriesOf_35 rfl (lv_at hl 3 rfl) ?_
            refine gc_Si hA hK hl.1 hG B (c_X2_placeAt l D (gT cI cJ) _ (wC h0 q1 q2 q3 cJ (f_X2_meet (f_X2_inodeOfEntry (f_X2_placeOf y1_2 y2_2 g2)) g2).2) y1_2 y2_2 _ rfl) (va_cwS 2 hts gX2_clearWrongEntriesOf_X2_placeAt rfl rfl rfl (by decide +kernel) ⟨by decide, by decide⟩) rfl rfl (Nat.le_of_ble_eq_true rfl) dX2_clearWrongEntriesOf_36 ⟨Nat.zero_le _, Nat.zero_le _⟩ (fun H locs hG => ?_)
            refine lv_lconst (v := 0) hx hb dX2_clearWrongEntriesOf_39 (by decide) ?_
            refine gc_Vv hA hK hl.1 hG B (c_X0_write l D cI cJ h0 q1 q2 q3 _ (f_X2_meet (f_X2_inodeOfEntry (f_X2_placeOf y1_2 y2_2 g2)) g2).2 (f_X2_placeAt y1_2 y2_2) (0 : Int64) _ rfl) (cwV 2 hts gX2_clearWrongEntriesOf_X0_write rfl rfl rfl (by decide +kernel) ⟨by decide, by decide⟩) 1 rfl rfl rfl rfl rfl (Nat.le_of_ble_eq_true rfl) dX2_clearWrongEntriesOf_40 ⟨Nat.zero_le _, Nat.zero_le _⟩ (fun H locs hG => ?_)
            refine lv_iinc (v := (y2_2 + (1 : Int32))) (lv' := [(2, .int (y2_2 + (1 : Int32))), (3, .int (f_X2_placeOf y1_2 y2_2 g2)), (0, .ref h0), (1, .int y1_2)]) hx hb dX2_clearWrongEntriesOf_43 hl (k := 3) rfl rfl (by decide) rfl (fun ls hl => ?_)
            refine lv_goto (tgt := 2) hx hb dX2_clearWrongEntriesOf_46 (by decide) ?_
            have hn := hn2 _ (Option.some.inj hf).symm
            exact ih (y2_2 + (1 : Int32)) (f_X0_write (f_X2_placeAt y1_2 y2_2) (0 : Int64) (f_X2_meet (f_X2_inodeOfEntry (f_X2_placeOf y1_2 y2_2 g2)) g2).2) _ _ _ hG (lv_sub hl [2, 3, 0] rfl) hn
  unfold f_X2_clearWrongEntriesOf at hf
  refine lv_iconst (v := 0) hx hb dX2_clearWrongEntriesOf_0 (by decide) ?_
  refine lv_istore_n (lv' := [(2, .int (0 : Int32)), (0, .ref h0), (1, .int x1)]) hx hb dX2_clearWrongEntriesOf_1 rfl hl (by decide) rfl (fun ls hl => ?_)
  obtain ⟨zv_4, hizv_4, hf⟩ := ob hf
  refine L2 zv_4 x1 (fun H locs ls ev_4 hres hG hl => ?_) 300 (0 : Int32) g _ _ _ hG (lv_sub hl [1, 2, 0] rfl) hizv_4
  have hres := hres.symm
  subst hres
  have hf := Option.some.inj hf
  subst hf
  exact g_vret hr hlk hK hG B dX2_clearWrongEntriesOf_49
def b_X2_clearWrongEntries_7  (y1_7 : Int32) (g7 : CS) : Option ((CS) ⊕ (Int32 × CS)) := (if (12 : Int32) ≤ y1_7 then some (.inl g7) else (if (f_X2_kindOf y1_7 g7) = (1 : Int32) then ((f_X2_clearWrongEntriesOf y1_7 g7).bind (fun zv_3 => some (.inr ((y1_7 + (1 : Int32)), zv_3)))) else some (.inr ((y1_7 + (1 : Int32)), g7))))
def f_X2_clearWrongEntries  (g : CS) : Option CS := ((itl (fun a : Int32 × CS => b_X2_clearWrongEntries_7  a.1 a.2) 300 ((0 : Int32), (sC_met (0 : Int32) g))).bind (fun ev_4 => some ev_4))
set_option maxHeartbeats 4000000 in
set_option maxRecDepth 100000 in
theorem c_X2_clearWrongEntries (l : Launch) (D : va_G) (cI cJ : ClassId) (h0 q1 q2 q3 sz : Nat) (g : CS)  (g1 : CS) (hf : f_X2_clearWrongEntries  g = some g1) : Met l yX2_clearWrongEntries wsX2_clearWrongEntries { frames := 4, cells := 0, slots := 0, locals := 87 } (gPc D (gT cI cJ) sz (wC h0 q1 q2 q3 cJ g) [.ref h0]) (gQv D (gT cI cJ) (va_A (wC h0 q1 q2 q3 cJ g) sz) (wC h0 q1 q2 q3 cJ g1)) 0 0 (va_A (wC h0 q1 q2 q3 cJ g) sz) := by
  refine gMet (cc := cX2_clearWrongEntries) (maxL := 2) (ret := none) (by decide) rfl ?_ (Nat.le_of_ble_eq_true rfl)
  intro p e0 s m below meth c ls B hr hlk hsz hK hG hl
  have hA : ∀ q : Nat, s.heap.size ≤ q → va_A (wC h0 q1 q2 q3 cJ g) sz q := fun q h => Or.inr (hsz ▸ h)
  have hx := B.1
  have hb := B.2.1
  have hts := B.2.2.2.2
  have hl : lv_has ls 2 [(0, .ref h0)] := hl
  generalize va_A (wC h0 q1 q2 q3 cJ g) sz = A at hA hG ⊢
  have hinX2 : ∀ x ∈ wsX20, x ∈ wsX2_clearWrongEntries := by decide +kernel
  have m_164 : Cond.fieldLink RX2 164 "BlockMover" "inodesMet" "I" ∈ wsX2_clearWrongEntries := by decide +kernel
  have L7 : ∀ (res : (CS)) , (∀ (H1 : Heap) (locs1 : List Loc) (ls1 : Array Slot) (e : CS), res = e → gG D A s.heap (wC h0 q1 q2 q3 cJ e) H1 locs1 → lv_has ls1 2 [] → W p l e0 { frames := 4, cells := 0, slots := 0, locals := 87 } s m ([.ref h0] : List Value).toArray below meth c H1 locs1 0 0 (MQ below (gQv D (gT cI cJ) A (wC h0 q1 q2 q3 cJ g1)) ([.ref h0] : List Value).toArray s 0 0 A) (F0 m 33 ls1 [])) → ∀ (n : Nat) (y1_7 : Int32) (g7 : CS) (H : Heap) (locs : List Loc) (ls : Array Slot), gG D A s.heap (wC h0 q1 q2 q3 cJ g7) H locs → lv_has ls 2 [(0, .ref h0), (1, .int y1_7)] → itl (fun a : Int32 × CS => b_X2_clearWrongEntries_7  a.1 a.2) n (y1_7, g7) = some res → W p l e0 { frames := 4, cells := 0, slots := 0, locals := 87 } s m ([.ref h0] : List Value).toArray below meth c H locs 0 0 (MQ below (gQv D (gT cI cJ) A (wC h0 q1 q2 q3 cJ g1)) ([.ref h0] : List Value).toArray s 0 0 A) (F0 m 7 ls []) := by
    intro res  hKe7 n
    induction n with
    | zero => exact fun y1_7 g7 H locs ls hG hl hf => (itl_0 hf).elim
    | succ n ih =>
      intro y1_7 g7 H locs ls hG hl hf
      obtain ⟨o, hf, ho7, hn7⟩ := itl_s hf
      have hf : b_X2_clearWrongEntries_7  y1_7 g7 = some o := hf
      unfold b_X2_clearWrongEntries_7 at hf
      refine lv_iload_n hx hb dX2_clearWrongEntries_7 rfl (lv_at hl 1 rfl) ?_
      refine lv_bipush (v := 12) hx hb dX2_clearWrongEntries_8 (by decide) ?_
      refine lv_icmp_ge (tgt := 33) hx hb dX2_clearWrongEntries_10 (by decide) (fun cq_1 => ?_) (fun cq_1 => ?_)
      · have hf := ifT cq_1 hf
        have hres := ho7 _ (Option.some.inj hf).symm
        exact hKe7 _ _ _ g7 hres.symm hG (lv_sub hl [] rfl)
      · have hf := ifF cq_1 hf
        refine lv_aload_n hx hb dX2_clearWrongEntries_13 rfl (lv_at hl 0 rfl) ?_
        refine lv_iload_n hx hb dX2_clearWrongEntries_14 rfl (lv_at hl 1 rfl) ?_
        refine gc_Vi hA hK hl.1 hG B (c_X2_kindOf l D cI cJ h0 q1 q2 q3 _ g7 y1_7 _ rfl) (cwV 1 hts gX2_clearWrongEntries_X2_kindOf rfl rfl rfl (by decide +kernel) ⟨by decide, by decide⟩) 0 rfl rfl rfl rfl rfl (Nat.le_of_ble_eq_true rfl) dX2_clearWrongEntries_15 ⟨Nat.zero_le _, Nat.zero_le _⟩ (fun H locs hG => ?_)
        refine lv_iconst (v := 1) hx hb dX2_clearWrongEntries_18 (by decide) ?_
        refine lv_icmp_ne (tgt := 27) hx hb dX2_clearWrongEntries_19 (by decide) (fun cq_2 => ?_) (fun cq_2 => ?_)
        · have hf := ifF cq_2 hf
          refine lv_iinc (v := (y1_7 + (1 : Int32))) (lv' := [(1, .int (y1_7 + (1 : Int32))), (0, .ref h0)]) hx hb dX2_clearWrongEntries_27 hl (k := 1) rfl rfl (by decide) rfl (fun ls hl => ?_)
          refine lv_goto (tgt := 7) hx hb dX2_clearWrongEntries_30 (by decide) ?_
          have hn := hn7 _ (Option.some.inj hf).symm
          exact ih (y1_7 + (1 : Int32)) g7 _ _ _ hG (lv_sub hl [1, 0] rfl) hn
        · have hf := ifT cq_2 hf
          refine lv_aload_n hx hb dX2_clearWrongEntries_22 rfl (lv_at hl 0 rfl) ?_
          refine lv_iload_n hx hb dX2_clearWrongEntries_23 rfl (lv_at hl 1 rfl) ?_
          obtain ⟨zv_3, hqzv_3, hf⟩ := ob hf
          refine gc_Vv hA hK hl.1 hG B (c_X2_clearWrongEntriesOf l D cI cJ h0 q1 q2 q3 _ g7 y1_7 _ hqzv_3) (cwV 1 hts gX2_clearWrongEntries_X2_clearWrongEntriesOf rfl rfl rfl (by decide +kernel) ⟨by decide, by decide⟩) 0 rfl rfl rfl rfl rfl (Nat.le_of_ble_eq_true rfl) dX2_clearWrongEntries_24 ⟨Nat.zero_le _, Nat.zero_le _⟩ (fun H locs hG => ?_)
          refine lv_iinc (v := (y1_7 + (1 : Int32))) (lv' := [(1, .int (y1_7 + (1 : Int32))), (0, .ref h0)]) hx hb dX2_clearWrongEntries_27 hl (k := 1) rfl rfl (by decide) rfl (fun ls hl => ?_)
          refine lv_goto (tgt := 7) hx hb dX2_clearWrongEntries_30 (by decide) ?_
          have hn := hn7 _ (Option.some.inj hf).symm
          exact ih (y1_7 + (1 : Int32)) zv_3 _ _ _ hG (lv_sub hl [1, 0] rfl) hn
  unfold f_X2_clearWrongEntries at hf
  refine lv_aload_n hx hb dX2_clearWrongEntries_0 rfl (lv_at hl 0 rfl) ?_
  refine lv_iconst (v := 0) hx hb dX2_clearWrongEntries_1 (by decide) ?_
  refine gp_C_met hK hG B hinX2 m_164 dX2_clearWrongEntries_2 (fun H locs hG => ?_)
  refine lv_iconst (v := 0) hx hb dX2_clearWrongEntries_5 (by decide) ?_
  refine lv_istore_n (lv' := [(1, .int (0 : Int32)), (0, .ref h0)]) hx hb dX2_clearWrongEntries_6 rfl hl (by decide) rfl (fun ls hl => ?_)
  obtain ⟨zv_4, hizv_4, hf⟩ := ob hf
  refine L7 zv_4  (fun H locs ls ev_4 hres hG hl => ?_) 300 (0 : Int32) (sC_met (0 : Int32) g) _ _ _ hG (lv_sub hl [1, 0] rfl) hizv_4
  have hres := hres.symm
  subst hres
  have hf := Option.some.inj hf
  subst hf
  exact g_vret hr hlk hK hG B dX2_clearWrongEntries_33
def b_X2_clearInodesWithoutEntry_2  (y1_2 : Int32) (g2 : CS) : Option ((CS) ⊕ (Int32 × CS)) := (if (12 : Int32) ≤ y1_2 then some (.inl g2) else (if (f_X2_kindOf y1_2 g2) = (0 : Int32) then some (.inr ((y1_2 + (1 : Int32)), g2)) else ((f_X2_directoryAbove y1_2 g2).bind (fun zv_3 => (if zv_3 = (-3 : Int32) then some (.inr ((y1_2 + (1 : Int32)), (f_X0_write (f_X2_inodeAt y1_2 (0 : Int32)) (0 : Int64) g2))) else some (.inr ((y1_2 + (1 : Int32)), g2)))))))
def f_X2_clearInodesWithoutEntry  (g : CS) : Option CS := ((itl (fun a : Int32 × CS => b_X2_clearInodesWithoutEntry_2  a.1 a.2) 300 ((1 : Int32), g)).bind (fun ev_5 => some ev_5))
set_option maxHeartbeats 4000000 in
set_option maxRecDepth 100000 in
theorem c_X2_clearInodesWithoutEntry (l : Launch) (D : va_G) (cI cJ : ClassId) (h0 q1 q2 q3 sz : Nat) (g : CS)  (g1 : CS) (hf : f_X2_clearInodesWithoutEntry  g = some g1) : Met l yX2_clearInodesWithoutEntry wsX2_clearInodesWithoutEntry { frames := 5, cells := 0, slots := 0, locals := 110 } (gPc D (gT cI cJ) sz (wC h0 q1 q2 q3 cJ g) [.ref h0]) (gQv D (gT cI cJ) (va_A (wC h0 q1 q2 q3 cJ g) sz) (wC h0 q1 q2 q3 cJ g1)) 0 0 (va_A (wC h0 q1 q2 q3 cJ g) sz) := by
  refine gMet (cc := cX2_clearInodesWithoutEntry) (maxL := 2) (ret := none) (by decide) rfl ?_ (Nat.le_of_ble_eq_true rfl)
  intro p e0 s m below meth c ls B hr hlk hsz hK hG hl
  have hA : ∀ q : Nat, s.heap.size ≤ q → va_A (wC h0 q1 q2 q3 cJ g) sz q := fun q h => Or.inr (hsz ▸ h)
  have hx := B.1
  have hb := B.2.1
  have hts := B.2.2.2.2
  have hl : lv_has ls 2 [(0, .ref h0)] := hl
  generalize va_A (wC h0 q1 q2 q3 cJ g) sz = A at hA hG ⊢
  have hinX2 : ∀ x ∈ wsX20, x ∈ wsX2_clearInodesWithoutEntry := by decide +kernel
  have m_12 : Cond.fieldLink RX2 12 "BlockMover" "disk" "LBlockMover$Disk;" ∈ wsX2_clearInodesWithoutEntry := by decide +kernel
  have L2 : ∀ (res : (CS)) , (∀ (H1 : Heap) (locs1 : List Loc) (ls1 : Array Slot) (e : CS), res = e → gG D A s.heap (wC h0 q1 q2 q3 cJ e) H1 locs1 → lv_has ls1 2 [] → W p l e0 { frames := 5, cells := 0, slots := 0, locals := 110 } s m ([.ref h0] : List Value).toArray below meth c H1 locs1 0 0 (MQ below (gQv D (gT cI cJ) A (wC h0 q1 q2 q3 cJ g1)) ([.ref h0] : List Value).toArray s 0 0 A) (F0 m 45 ls1 [])) → ∀ (n : Nat) (y1_2 : Int32) (g2 : CS) (H : Heap) (locs : List Loc) (ls : Array Slot), gG D A s.heap (wC h0 q1 q2 q3 cJ g2) H locs → lv_has ls 2 [(0, .ref h0), (1, .int y1_2)] → itl (fun a : Int32 × CS => b_X2_clearInodesWithoutEntry_2  a.1 a.2) n (y1_2, g2) = some res → W p l e0 { frames := 5, cells := 0, slots := 0, locals := 110 } s m ([.ref h0] : List Value).toArray below meth c H locs 0 0 (MQ below (gQv D (gT cI cJ) A (wC h0 q1 q2 q3 cJ g1)) ([.ref h0] : List Value).toArray s 0 0 A) (F0 m 2 ls []) := by
    intro res  hKe2 n
    induction n with
    | zero => exact fun y1_2 g2 H locs ls hG hl hf => (itl_0 hf).elim
    | succ n ih =>
      intro y1_2 g2 H locs ls hG hl hf
      obtain ⟨o, hf, ho2, hn2⟩ := itl_s hf
      have hf : b_X2_clearInodesWithoutEntry_2  y1_2 g2 = some o := hf
      unfold b_X2_clearInodesWithoutEntry_2 at hf
      refine lv_iload_n hx hb dX2_clearInodesWithoutEntry_2 rfl (lv_at hl 1 rfl) ?_
      refine lv_bipush (v := 12) hx hb dX2_clearInodesWithoutEntry_3 (by decide) ?_
      refine lv_icmp_ge (tgt := 45) hx hb dX2_clearInodesWithoutEntry_5 (by decide) (fun cq_1 => ?_) (fun cq_1 => ?_)
      · have hf := ifT cq_1 hf
        have hres := ho2 _ (Option.some.inj hf).symm
        exact hKe2 _ _ _ g2 hres.symm hG (lv_sub hl [] rfl)
      · have hf := ifF cq_1 hf
        refine lv_aload_n hx hb dX2_clearInodesWithoutEntry_8 rfl (lv_at hl 0 rfl) ?_
        refine lv_iload_n hx hb dX2_clearInodesWithoutEntry_9 rfl (lv_at hl 1 rfl) ?_
        refine gc_Vi hA hK hl.1 hG B (c_X2_kindOf l D cI cJ h0 q1 q2 q3 _ g2 y1_2 _ rfl) (cwV 1 hts gX2_clearInodesWithoutEntry_X2_kindOf rfl rfl rfl (by decide +kernel) ⟨by decide, by decide⟩) 0 rfl rfl rfl rfl rfl (Nat.le_of_ble_eq_true rfl) dX2_clearInodesWithoutEntry_10 ⟨Nat.zero_le _, Nat.zero_le _⟩ (fun H locs hG => ?_)
        refine lv_if_eq (tgt := 39) hx hb dX2_clearInodesWithoutEntry_13 (by decide) (fun cq_2 => ?_) (fun cq_2 => ?_)
        · have hf := ifT cq_2 hf
          refine lv_iinc (v := (y1_2 + (1 : Int32))) (lv' := [(1, .int (y1_2 + (1 : Int32))), (0, .ref h0)]) hx hb dX2_clearInodesWithoutEntry_39 hl (k := 1) rfl rfl (by decide) rfl (fun ls hl => ?_)
          refine lv_goto (tgt := 2) hx hb dX2_clearInodesWithoutEntry_42 (by decide) ?_
          have hn := hn2 _ (Option.some.inj hf).symm
          exact ih (y1_2 + (1 : Int32)) g2 _ _ _ hG (lv_sub hl [1, 0] rfl) hn
        · have hf := ifF cq_2 hf
          refine lv_aload_n hx hb dX2_clearInodesWithoutEntry_16 rfl (lv_at hl 0 rfl) ?_
          refine lv_iload_n hx hb dX2_clearInodesWithoutEntry_17 rfl (lv_at hl 1 rfl) ?_
          obtain ⟨zv_3, hqzv_3, hf⟩ := ob hf
          refine gc_Vi hA hK hl.1 hG B (c_X2_directoryAbove l D cI cJ h0 q1 q2 q3 _ g2 y1_2 _ hqzv_3) (cwV 1 hts gX2_clearInodesWithoutEntry_X2_directoryAbove rfl rfl rfl (by decide +kernel) ⟨by decide, by decide⟩) 0 rfl rfl rfl rfl rfl (Nat.le_of_ble_eq_true rfl) dX2_clearInodesWithoutEntry_18 ⟨Nat.zero_le _, Nat.zero_le _⟩ (fun H locs hG => ?_)
          refine lv_bipush (v := -3) hx hb dX2_clearInodesWithoutEntry_21 (by decide) ?_
          refine lv_icmp_ne (tgt := 39) hx hb dX2_clearInodesWithoutEntry_23 (by decide) (fun cq_4 => ?_) (fun cq_4 => ?_)
          · have hf := ifF cq_4 hf
            refine lv_iinc (v := (y1_2 + (1 : Int32))) (lv' := [(1, .int (y1_2 + (1 : Int32))), (0, .ref h0)]) hx hb dX2_clearInodesWithoutEntry_39 hl (k := 1) rfl rfl (by decide) rfl (fun ls hl => ?_)
            refine lv_goto (tgt := 2) hx hb dX2_clearInodesWithoutEntry_42 (by decide) ?_
            have hn := hn2 _ (Option.some.inj hf).symm
            exact ih (y1_2 + (1 : Int32)) g2 _ _ _ hG (lv_sub hl [1, 0] rfl) hn
          · have hf := ifT cq_4 hf
            refine lv_aload_n hx hb dX2_clearInodesWithoutEntry_26 rfl (lv_at hl 0 rfl) ?_
            refine g_get hK hG B hinX2 0 rfl rfl 0 (by decide) m_12 rfl dX2_clearInodesWithoutEntry_27 ?_
            refine lv_iload_n hx hb dX2_clearInodesWithoutEntry_30 rfl (lv_at hl 1 rfl) ?_
            refine lv_iconst (v := 0) hx hb dX2_clearInodesWithoutEntry_31 (by decide) ?_
            refine gc_Si hA hK hl.1 hG B (c_X2_inodeAt l D (gT cI cJ) _ (wC h0 q1 q2 q3 cJ g2) y1_2 (0 : Int32) _ rfl) (va_cwS 2 hts gX2_clearInodesWithoutEntry_X2_inodeAt rfl rfl rfl (by decide +kernel) ⟨by decide, by decide⟩) rfl rfl (Nat.le_of_ble_eq_true rfl) dX2_clearInodesWithoutEntry_32 ⟨Nat.zero_le _, Nat.zero_le _⟩ (fun H locs hG => ?_)
            refine lv_lconst (v := 0) hx hb dX2_clearInodesWithoutEntry_35 (by decide) ?_
            refine gc_Vv hA hK hl.1 hG B (c_X0_write l D cI cJ h0 q1 q2 q3 _ g2 (f_X2_inodeAt y1_2 (0 : Int32)) (0 : Int64) _ rfl) (cwV 2 hts gX2_clearInodesWithoutEntry_X0_write rfl rfl rfl (by decide +kernel) ⟨by decide, by decide⟩) 1 rfl rfl rfl rfl rfl (Nat.le_of_ble_eq_true rfl) dX2_clearInodesWithoutEntry_36 ⟨Nat.zero_le _, Nat.zero_le _⟩ (fun H locs hG => ?_)
            refine lv_iinc (v := (y1_2 + (1 : Int32))) (lv' := [(1, .int (y1_2 + (1 : Int32))), (0, .ref h0)]) hx hb dX2_clearInodesWithoutEntry_39 hl (k := 1) rfl rfl (by decide) rfl (fun ls hl => ?_)
            refine lv_goto (tgt := 2) hx hb dX2_clearInodesWithoutEntry_42 (by decide) ?_
            have hn := hn2 _ (Option.some.inj hf).symm
            exact ih (y1_2 + (1 : Int32)) (f_X0_write (f_X2_inodeAt y1_2 (0 : Int32)) (0 : Int64) g2) _ _ _ hG (lv_sub hl [1, 0] rfl) hn
  unfold f_X2_clearInodesWithoutEntry at hf
  refine lv_iconst (v := 1) hx hb dX2_clearInodesWithoutEntry_0 (by decide) ?_
  refine lv_istore_n (lv' := [(1, .int (1 : Int32)), (0, .ref h0)]) hx hb dX2_clearInodesWithoutEntry_1 rfl hl (by decide) rfl (fun ls hl => ?_)
  obtain ⟨zv_5, hizv_5, hf⟩ := ob hf
  refine L2 zv_5  (fun H locs ls ev_5 hres hG hl => ?_) 300 (1 : Int32) g _ _ _ hG (lv_sub hl [1, 0] rfl) hizv_5
  have hres := hres.symm
  subst hres
  have hf := Option.some.inj hf
  subst hf
  exact g_vret hr hlk hK hG B dX2_clearInodesWithoutEntry_45
