def b_X2_restart_22 (y1_22 : Int32) (y2_22 : Int32) (g22 : CS) : Option ((CS) ⊕ (Int32 × CS)) := (if (120 : Int32) ≤ y2_22 then some (.inl g22) else ((f_X2_clearWrongEntries  g22).bind (fun zv_3 => ((f_X2_clearInodesWithoutEntry  zv_3).bind (fun zv_4 => (if (C_wr zv_4) = (C_wr g22) then some (.inl zv_4) else some (.inr ((y2_22 + (1 : Int32)), zv_4))))))))
def f_X2_restart  (g : CS) : Option (Int32 × CS) := ((f_X2_finishRecordedMove  (sC_down (0 : Int32) g)).bind (fun zv_1 => ((itl (fun a : Int32 × CS => b_X2_restart_22 (C_wr g) a.1 a.2) 300 ((0 : Int32), zv_1)).bind (fun ev_6 => some ((f_X2_answerOrDown ((C_wr ev_6) - (C_wr g)) ev_6), ev_6)))))
set_option maxHeartbeats 4000000 in
set_option maxRecDepth 100000 in
theorem c_X2_restart (l : Launch) (D : va_G) (cI cJ : ClassId) (h0 q1 q2 q3 sz : Nat) (g : CS)  (r : Int32) (g1 : CS) (hf : f_X2_restart  g = some (r, g1)) : Met l yX2_restart wsX2_restart { frames := 6, cells := 0, slots := 0, locals := 131 } (gPc D (gT cI cJ) sz (wC h0 q1 q2 q3 cJ g) [.ref h0]) (gQi D (gT cI cJ) (va_A (wC h0 q1 q2 q3 cJ g) sz) r (wC h0 q1 q2 q3 cJ g1)) 0 0 (va_A (wC h0 q1 q2 q3 cJ g) sz) := by
  refine gMet (cc := cX2_restart) (maxL := 4) (ret := (some .int)) (by decide) rfl ?_ (Nat.le_of_ble_eq_true rfl)
  intro p e0 s m below meth c ls B hr hlk hsz hK hG hl
  have hA : ∀ q : Nat, s.heap.size ≤ q → va_A (wC h0 q1 q2 q3 cJ g) sz q := fun q h => Or.inr (hsz ▸ h)
  have hx := B.1
  have hb := B.2.1
  have hts := B.2.2.2.2
  have hl : lv_has ls 4 [(0, .ref h0)] := hl
  generalize va_A (wC h0 q1 q2 q3 cJ g) sz = A at hA hG ⊢
  have hinX0 : ∀ x ∈ wsX00, x ∈ wsX2_restart := by decide +kernel
  have hinX2 : ∀ x ∈ wsX20, x ∈ wsX2_restart := by decide +kernel
  have m_12 : Cond.fieldLink RX2 12 "BlockMover" "disk" "LBlockMover$Disk;" ∈ wsX2_restart := by decide +kernel
  have m_31 : Cond.fieldLink RX2 31 "BlockMover$Disk" "down" "Z" ∈ wsX2_restart := by decide +kernel
  have m_124 : Cond.fieldLink RX2 124 "BlockMover$Disk" "writes" "I" ∈ wsX2_restart := by decide +kernel
  have L22 : ∀ (res : (CS)) (y1_22 : Int32), (∀ (H1 : Heap) (locs1 : List Loc) (ls1 : Array Slot) (e : CS), res = e → gG D A s.heap (wC h0 q1 q2 q3 cJ e) H1 locs1 → lv_has ls1 4 [(0, .ref h0), (1, .int y1_22)] → W p l e0 { frames := 6, cells := 0, slots := 0, locals := 131 } s m ([.ref h0] : List Value).toArray below meth c H1 locs1 0 0 (MQ below (gQi D (gT cI cJ) A r (wC h0 q1 q2 q3 cJ g1)) ([.ref h0] : List Value).toArray s 0 0 A) (F0 m 64 ls1 [])) → ∀ (n : Nat) (y2_22 : Int32) (g22 : CS) (H : Heap) (locs : List Loc) (ls : Array Slot), gG D A s.heap (wC h0 q1 q2 q3 cJ g22) H locs → lv_has ls 4 [(0, .ref h0), (1, .int y1_22), (2, .int y2_22)] → itl (fun a : Int32 × CS => b_X2_restart_22 y1_22 a.1 a.2) n (y2_22, g22) = some res → W p l e0 { frames := 6, cells := 0, slots := 0, locals := 131 } s m ([.ref h0] : List Value).toArray below meth c H locs 0 0 (MQ below (gQi D (gT cI cJ) A r (wC h0 q1 q2 q3 cJ g1)) ([.ref h0] : List Value).toArray s 0 0 A) (F0 m 22 ls []) := by
    intro res y1_22 hKe22 n
    induction n with
    | zero => exact fun y2_22 g22 H locs ls hG hl hf => (itl_0 hf).elim
    | succ n ih =>
      intro y2_22 g22 H locs ls hG hl hf
      obtain ⟨o, hf, ho22, hn22⟩ := itl_s hf
      have hf : b_X2_restart_22 y1_22 y2_22 g22 = some o := hf
      unfold b_X2_restart_22 at hf
      refine lv_iload_n hx hb dX2_restart_22 rfl (lv_at hl 2 rfl) ?_
      refine lv_bipush (v := 120) hx hb dX2_restart_23 (by decide) ?_
      refine lv_icmp_ge (tgt := 64) hx hb dX2_restart_25 (by decide) (fun cq_2 => ?_) (fun cq_2 => ?_)
      · have hf := ifT cq_2 hf
        have hres := ho22 _ (Option.some.inj hf).symm
        exact hKe22 _ _ _ g22 hres.symm hG (lv_sub hl [0, 1] rfl)
      · have hf := ifF cq_2 hf
        refine lv_aload_n hx hb dX2_restart_28 rfl (lv_at hl 0 rfl) ?_
        refine g_get hK hG B hinX2 0 rfl rfl 0 (by decide) m_12 rfl dX2_restart_29 ?_
        refine g_get hK hG B hinX0 1 rfl rfl 2 (by decide) m_124 rfl dX2_restart_32 ?_
        refine lv_istore_n (lv' := [(3, .int (C_wr g22)), (0, .ref h0), (1, .int y1_22), (2, .int y2_22)]) hx hb dX2_restart_35 rfl hl (by decide) rfl (fun ls hl => ?_)
        refine lv_aload_n hx hb dX2_restart_36 rfl (lv_at hl 1 rfl) ?_
        obtain ⟨zv_3, hqzv_3, hf⟩ := ob hf
        refine gc_Vv hA hK hl.1 hG B (c_X2_clearWrongEntries l D cI cJ h0 q1 q2 q3 _ g22  _ hqzv_3) (cwV 0 hts gX2_restart_X2_clearWrongEntries rfl rfl rfl (by decide +kernel) ⟨by decide, by decide⟩) 0 rfl rfl rfl rfl rfl (Nat.le_of_ble_eq_true rfl) dX2_restart_37 ⟨Nat.zero_le _, Nat.zero_le _⟩ (fun H locs hG => ?_)
        refine lv_aload_n hx hb dX2_restart_40 rfl (lv_at hl 1 rfl) ?_
        obtain ⟨zv_4, hqzv_4, hf⟩ := ob hf
        refine gc_Vv hA hK hl.1 hG B (c_X2_clearInodesWithoutEntry l D cI cJ h0 q1 q2 q3 _ zv_3  _ hqzv_4) (cwV 0 hts gX2_restart_X2_clearInodesWithoutEntry rfl rfl rfl (by decide +kernel) ⟨by decide, by decide⟩) 0 rfl rfl rfl rfl rfl (Nat.le_of_ble_eq_true rfl) dX2_restart_41 ⟨Nat.zero_le _, Nat.zero_le _⟩ (fun H locs hG => ?_)
        refine lv_aload_n hx hb dX2_restart_44 rfl (lv_at hl 1 rfl) ?_
        refine g_get hK hG B hinX2 0 rfl rfl 0 (by decide) m_12 rfl dX2_restart_45 ?_
        refine g_get hK hG B hinX0 1 rfl rfl 2 (by decide) m_124 rfl dX2_restart_48 ?_
        refine lv_iload_n hx hb dX2_restart_51 rfl (lv_at hl 0 rfl) ?_
        refine lv_icmp_ne (tgt := 58) hx hb dX2_restart_52 (by decide) (fun cq_5 => ?_) (fun cq_5 => ?_)
        · have hf := ifF cq_5 hf
          refine lv_iinc (v := (y2_22 + (1 : Int32))) (lv' := [(2, .int (y2_22 + (1 : Int32))), (3, .int (C_wr g22)), (0, .ref h0), (1, .int y1_22)]) hx hb dX2_restart_58 hl (k := 3) rfl rfl (by decide) rfl (fun ls hl => ?_)
          refine lv_goto (tgt := 22) hx hb dX2_restart_61 (by decide) ?_
          have hn := hn22 _ (Option.some.inj hf).symm
          exact ih (y2_22 + (1 : Int32)) zv_4 _ _ _ hG (lv_sub hl [2, 3, 0] rfl) hn
        · have hf := ifT cq_5 hf
          refine lv_goto (tgt := 64) hx hb dX2_restart_55 (by decide) ?_
          have hres := ho22 _ (Option.some.inj hf).symm
          exact hKe22 _ _ _ zv_4 hres.symm hG (lv_sub hl [1, 2] rfl)
  unfold f_X2_restart at hf
  refine lv_aload_n hx hb dX2_restart_0 rfl (lv_at hl 0 rfl) ?_
  refine g_get hK hG B hinX2 0 rfl rfl 0 (by decide) m_12 rfl dX2_restart_1 ?_
  refine g_get hK hG B hinX0 1 rfl rfl 2 (by decide) m_124 rfl dX2_restart_4 ?_
  refine lv_istore_n (lv' := [(1, .int (C_wr g)), (0, .ref h0)]) hx hb dX2_restart_7 rfl hl (by decide) rfl (fun ls hl => ?_)
  refine lv_aload_n hx hb dX2_restart_8 rfl (lv_at hl 1 rfl) ?_
  refine g_get hK hG B hinX2 0 rfl rfl 0 (by decide) m_12 rfl dX2_restart_9 ?_
  refine lv_iconst (v := 0) hx hb dX2_restart_12 (by decide) ?_
  refine gp_C_down hK hG B hinX0 m_31 rfl rfl dX2_restart_13 (fun H locs hG => ?_)
  refine lv_aload_n hx hb dX2_restart_16 rfl (lv_at hl 1 rfl) ?_
  obtain ⟨zv_1, hqzv_1, hf⟩ := ob hf
  refine gc_Vv hA hK hl.1 hG B (c_X2_finishRecordedMove l D cI cJ h0 q1 q2 q3 _ (sC_down (0 : Int32) g)  _ hqzv_1) (cwV 0 hts gX2_restart_X2_finishRecordedMove rfl rfl rfl (by decide +kernel) ⟨by decide, by decide⟩) 0 rfl rfl rfl rfl rfl (Nat.le_of_ble_eq_true rfl) dX2_restart_17 ⟨Nat.zero_le _, Nat.zero_le _⟩ (fun H locs hG => ?_)
  refine lv_iconst (v := 0) hx hb dX2_restart_20 (by decide) ?_
  refine lv_istore_n (lv' := [(2, .int (0 : Int32)), (1, .int (C_wr g)), (0, .ref h0)]) hx hb dX2_restart_21 rfl hl (by decide) rfl (fun ls hl => ?_)
  obtain ⟨zv_6, hizv_6, hf⟩ := ob hf
  refine L22 zv_6 (C_wr g) (fun H locs ls ev_6 hres hG hl => ?_) 300 (0 : Int32) zv_1 _ _ _ hG (lv_sub hl [2, 1, 0] rfl) hizv_6
  have hres := hres.symm
  subst hres
  refine lv_aload_n hx hb dX2_restart_64 rfl (lv_at hl 0 rfl) ?_
  refine lv_aload_n hx hb dX2_restart_65 rfl (lv_at hl 0 rfl) ?_
  refine g_get hK hG B hinX2 0 rfl rfl 0 (by decide) m_12 rfl dX2_restart_66 ?_
  refine g_get hK hG B hinX0 1 rfl rfl 2 (by decide) m_124 rfl dX2_restart_69 ?_
  refine lv_iload_n hx hb dX2_restart_72 rfl (lv_at hl 1 rfl) ?_
  refine lv_isub hx hb dX2_restart_73 ?_
  refine gc_Vi hA hK hl.1 hG B (c_X2_answerOrDown l D cI cJ h0 q1 q2 q3 _ ev_6 ((C_wr ev_6) - (C_wr g)) _ rfl) (cwV 1 hts gX2_restart_X2_answerOrDown rfl rfl rfl (by decide +kernel) ⟨by decide, by decide⟩) 0 rfl rfl rfl rfl rfl (Nat.le_of_ble_eq_true rfl) dX2_restart_74 ⟨Nat.zero_le _, Nat.zero_le _⟩ (fun H locs hG => ?_)
  have hf := Option.some.inj hf
  obtain ⟨e1, e2⟩ := Prod.mk.inj hf
  subst e2
  exact g_iret hr hlk hK hG B rfl e1 dX2_restart_77
def f_X2_find (x1 : Int32) (x2 : Int32) (g : CS) : Option Int32 := (if (f_X2_isOfKind x1 (1 : Int32) g) = (0 : Int32) then some (-1 : Int32) else (if (f_X2_isName x2) = (0 : Int32) then some (-1 : Int32) else ((f_X2_placeOfName x1 x2 g).bind (fun zv_3 => (if zv_3 = (-3 : Int32) then some (-3 : Int32) else some (f_X2_inodeOfEntry (f_X2_placeOf x1 zv_3 g)))))))
set_option maxHeartbeats 4000000 in
set_option maxRecDepth 100000 in
theorem c_X2_find (l : Launch) (D : va_G) (cI cJ : ClassId) (h0 q1 q2 q3 sz : Nat) (g : CS) (x1 : Int32) (x2 : Int32) (r : Int32) (hf : f_X2_find x1 x2 g = some r) : Met l yX2_find wsX2_find { frames := 4, cells := 0, slots := 0, locals := 87 } (gPc D (gT cI cJ) sz (wC h0 q1 q2 q3 cJ g) [.ref h0, .int x1, .int x2]) (gQi D (gT cI cJ) (va_A (wC h0 q1 q2 q3 cJ g) sz) r (wC h0 q1 q2 q3 cJ g)) 0 0 (va_A (wC h0 q1 q2 q3 cJ g) sz) := by
  refine gMet (cc := cX2_find) (maxL := 4) (ret := (some .int)) (by decide) rfl ?_ (Nat.le_of_ble_eq_true rfl)
  intro p e0 s m below meth c ls B hr hlk hsz hK hG hl
  have hA : ∀ q : Nat, s.heap.size ≤ q → va_A (wC h0 q1 q2 q3 cJ g) sz q := fun q h => Or.inr (hsz ▸ h)
  have hx := B.1
  have hb := B.2.1
  have hts := B.2.2.2.2
  have hl : lv_has ls 4 [(0, .ref h0), (1, .int x1), (2, .int x2)] := hl
  generalize va_A (wC h0 q1 q2 q3 cJ g) sz = A at hA hG ⊢
  unfold f_X2_find at hf
  refine lv_aload_n hx hb dX2_find_0 rfl (lv_at hl 0 rfl) ?_
  refine lv_iload_n hx hb dX2_find_1 rfl (lv_at hl 1 rfl) ?_
  refine lv_iconst (v := 1) hx hb dX2_find_2 (by decide) ?_
  refine gc_Vi hA hK hl.1 hG B (c_X2_isOfKind l D cI cJ h0 q1 q2 q3 _ g x1 (1 : Int32) _ rfl) (cwV 2 hts gX2_find_X2_isOfKind rfl rfl rfl (by decide +kernel) ⟨by decide, by decide⟩) 0 rfl rfl rfl rfl rfl (Nat.le_of_ble_eq_true rfl) dX2_find_3 ⟨Nat.zero_le _, Nat.zero_le _⟩ (fun H locs hG => ?_)
  refine lv_if_eq (tgt := 16) hx hb dX2_find_6 (by decide) (fun cq_1 => ?_) (fun cq_1 => ?_)
  · have hf := ifT cq_1 hf
    refine lv_iconst (v := -1) hx hb dX2_find_16 (by decide) ?_
    have hf := Option.some.inj hf
    exact g_iret hr hlk hK hG B rfl hf dX2_find_17
  · have hf := ifF cq_1 hf
    refine lv_iload_n hx hb dX2_find_9 rfl (lv_at hl 2 rfl) ?_
    refine gc_Si hA hK hl.1 hG B (c_X2_isName l D (gT cI cJ) _ (wC h0 q1 q2 q3 cJ g) x2 _ rfl) (va_cwS 1 hts gX2_find_X2_isName rfl rfl rfl (by decide +kernel) ⟨by decide, by decide⟩) rfl rfl (Nat.le_of_ble_eq_true rfl) dX2_find_10 ⟨Nat.zero_le _, Nat.zero_le _⟩ (fun H locs hG => ?_)
    refine lv_if_ne (tgt := 18) hx hb dX2_find_13 (by decide) (fun cq_2 => ?_) (fun cq_2 => ?_)
    · have hf := ifF cq_2 hf
      refine lv_aload_n hx hb dX2_find_18 rfl (lv_at hl 0 rfl) ?_
      refine lv_iload_n hx hb dX2_find_19 rfl (lv_at hl 1 rfl) ?_
      refine lv_iload_n hx hb dX2_find_20 rfl (lv_at hl 2 rfl) ?_
      obtain ⟨zv_3, hqzv_3, hf⟩ := ob hf
      refine gc_Vi hA hK hl.1 hG B (c_X2_placeOfName l D cI cJ h0 q1 q2 q3 _ g x1 x2 _ hqzv_3) (cwV 2 hts gX2_find_X2_placeOfName rfl rfl rfl (by decide +kernel) ⟨by decide, by decide⟩) 0 rfl rfl rfl rfl rfl (Nat.le_of_ble_eq_true rfl) dX2_find_21 ⟨Nat.zero_le _, Nat.zero_le _⟩ (fun H locs hG => ?_)
      refine lv_istore_n (lv' := [(3, .int zv_3), (0, .ref h0), (1, .int x1), (2, .int x2)]) hx hb dX2_find_24 rfl hl (by decide) rfl (fun ls hl => ?_)
      refine lv_iload_n hx hb dX2_find_25 rfl (lv_at hl 0 rfl) ?_
      refine lv_bipush (v := -3) hx hb dX2_find_26 (by decide) ?_
      refine lv_icmp_ne (tgt := 36) hx hb dX2_find_28 (by decide) (fun cq_4 => ?_) (fun cq_4 => ?_)
      · have hf := ifF cq_4 hf
        refine lv_aload_n hx hb dX2_find_36 rfl (lv_at hl 1 rfl) ?_
        refine lv_iload_n hx hb dX2_find_37 rfl (lv_at hl 2 rfl) ?_
        refine lv_iload_n hx hb dX2_find_38 rfl (lv_at hl 0 rfl) ?_
        refine gc_Vi hA hK hl.1 hG B (c_X2_placeOf l D cI cJ h0 q1 q2 q3 _ g x1 zv_3 _ rfl) (cwV 2 hts gX2_find_X2_placeOf rfl rfl rfl (by decide +kernel) ⟨by decide, by decide⟩) 0 rfl rfl rfl rfl rfl (Nat.le_of_ble_eq_true rfl) dX2_find_39 ⟨Nat.zero_le _, Nat.zero_le _⟩ (fun H locs hG => ?_)
        refine gc_Si hA hK hl.1 hG B (c_X2_inodeOfEntry l D (gT cI cJ) _ (wC h0 q1 q2 q3 cJ g) (f_X2_placeOf x1 zv_3 g) _ rfl) (va_cwS 1 hts gX2_find_X2_inodeOfEntry rfl rfl rfl (by decide +kernel) ⟨by decide, by decide⟩) rfl rfl (Nat.le_of_ble_eq_true rfl) dX2_find_42 ⟨Nat.zero_le _, Nat.zero_le _⟩ (fun H locs hG => ?_)
        have hf := Option.some.inj hf
        exact g_iret hr hlk hK hG B rfl hf dX2_find_45
      · have hf := ifT cq_4 hf
        refine lv_bipush (v := -3) hx hb dX2_find_31 (by decide) ?_
        refine lv_goto (tgt := 45) hx hb dX2_find_33 (by decide) ?_
        have hf := Option.some.inj hf
        exact g_iret hr hlk hK hG B rfl hf dX2_find_45
    · have hf := ifT cq_2 hf
      refine lv_iconst (v := -1) hx hb dX2_find_16 (by decide) ?_
      have hf := Option.some.inj hf
      exact g_iret hr hlk hK hG B rfl hf dX2_find_17
def f_X2_inode (x1 : Int32) (x2 : Int32) (g : CS) : Int32 := (if (f_X2_isBelow x1 (12 : Int32)) = (0 : Int32) then (-1 : Int32) else (if (f_X2_isBelow x2 (10 : Int32)) = (0 : Int32) then (-1 : Int32) else (f_X0_word (f_X2_inodeAt x1 x2) g).toInt32))
set_option maxHeartbeats 4000000 in
set_option maxRecDepth 100000 in
theorem c_X2_inode (l : Launch) (D : va_G) (cI cJ : ClassId) (h0 q1 q2 q3 sz : Nat) (g : CS) (x1 : Int32) (x2 : Int32) (r : Int32) (hf : f_X2_inode x1 x2 g = r) : Met l yX2_inode wsX2_inode { frames := 1, cells := 0, slots := 0, locals := 21 } (gPc D (gT cI cJ) sz (wC h0 q1 q2 q3 cJ g) [.ref h0, .int x1, .int x2]) (gQi D (gT cI cJ) (va_A (wC h0 q1 q2 q3 cJ g) sz) r (wC h0 q1 q2 q3 cJ g)) 0 0 (va_A (wC h0 q1 q2 q3 cJ g) sz) := by
  refine gMet (cc := cX2_inode) (maxL := 3) (ret := (some .int)) (by decide) rfl ?_ (Nat.le_of_ble_eq_true rfl)
  intro p e0 s m below meth c ls B hr hlk hsz hK hG hl
  have hA : ∀ q : Nat, s.heap.size ≤ q → va_A (wC h0 q1 q2 q3 cJ g) sz q := fun q h => Or.inr (hsz ▸ h)
  have hx := B.1
  have hb := B.2.1
  have hts := B.2.2.2.2
  have hl : lv_has ls 3 [(0, .ref h0), (1, .int x1), (2, .int x2)] := hl
  generalize va_A (wC h0 q1 q2 q3 cJ g) sz = A at hA hG ⊢
  have hinX2 : ∀ x ∈ wsX20, x ∈ wsX2_inode := by decide +kernel
  have m_12 : Cond.fieldLink RX2 12 "BlockMover" "disk" "LBlockMover$Disk;" ∈ wsX2_inode := by decide +kernel
  unfold f_X2_inode at hf
  refine lv_iload_n hx hb dX2_inode_0 rfl (lv_at hl 1 rfl) ?_
  refine lv_bipush (v := 12) hx hb dX2_inode_1 (by decide) ?_
  refine gc_Si hA hK hl.1 hG B (c_X2_isBelow l D (gT cI cJ) _ (wC h0 q1 q2 q3 cJ g) x1 (12 : Int32) _ rfl) (va_cwS 2 hts gX2_inode_X2_isBelow rfl rfl rfl (by decide +kernel) ⟨by decide, by decide⟩) rfl rfl (Nat.le_of_ble_eq_true rfl) dX2_inode_3 ⟨Nat.zero_le _, Nat.zero_le _⟩ (fun H locs hG => ?_)
  refine lv_if_eq (tgt := 18) hx hb dX2_inode_6 (by decide) (fun cq_1 => ?_) (fun cq_1 => ?_)
  · have hf := ifT cq_1 hf
    refine lv_iconst (v := -1) hx hb dX2_inode_18 (by decide) ?_
    exact g_iret hr hlk hK hG B rfl hf dX2_inode_19
  · have hf := ifF cq_1 hf
    refine lv_iload_n hx hb dX2_inode_9 rfl (lv_at hl 2 rfl) ?_
    refine lv_bipush (v := 10) hx hb dX2_inode_10 (by decide) ?_
    refine gc_Si hA hK hl.1 hG B (c_X2_isBelow l D (gT cI cJ) _ (wC h0 q1 q2 q3 cJ g) x2 (10 : Int32) _ rfl) (va_cwS 2 hts gX2_inode_X2_isBelow rfl rfl rfl (by decide +kernel) ⟨by decide, by decide⟩) rfl rfl (Nat.le_of_ble_eq_true rfl) dX2_inode_12 ⟨Nat.zero_le _, Nat.zero_le _⟩ (fun H locs hG => ?_)
    refine lv_if_ne (tgt := 20) hx hb dX2_inode_15 (by decide) (fun cq_2 => ?_) (fun cq_2 => ?_)
    · have hf := ifF cq_2 hf
      refine lv_aload_n hx hb dX2_inode_20 rfl (lv_at hl 0 rfl) ?_
      refine g_get hK hG B hinX2 0 rfl rfl 0 (by decide) m_12 rfl dX2_inode_21 ?_
      refine lv_iload_n hx hb dX2_inode_24 rfl (lv_at hl 1 rfl) ?_
      refine lv_iload_n hx hb dX2_inode_25 rfl (lv_at hl 2 rfl) ?_
      refine gc_Si hA hK hl.1 hG B (c_X2_inodeAt l D (gT cI cJ) _ (wC h0 q1 q2 q3 cJ g) x1 x2 _ rfl) (va_cwS 2 hts gX2_inode_X2_inodeAt rfl rfl rfl (by decide +kernel) ⟨by decide, by decide⟩) rfl rfl (Nat.le_of_ble_eq_true rfl) dX2_inode_26 ⟨Nat.zero_le _, Nat.zero_le _⟩ (fun H locs hG => ?_)
      refine gc_Vl hA hK hl.1 hG B (c_X0_word l D cI cJ h0 q1 q2 q3 _ g (f_X2_inodeAt x1 x2) _ rfl) (cwV 1 hts gX2_inode_X0_word rfl rfl rfl (by decide +kernel) ⟨by decide, by decide⟩) 1 rfl rfl rfl rfl rfl (Nat.le_of_ble_eq_true rfl) dX2_inode_29 ⟨Nat.zero_le _, Nat.zero_le _⟩ (fun H locs hG => ?_)
      refine lv_l2i hx hb dX2_inode_32 rfl ?_
      exact g_iret hr hlk hK hG B rfl hf dX2_inode_33
    · have hf := ifT cq_2 hf
      refine lv_iconst (v := -1) hx hb dX2_inode_18 (by decide) ?_
      exact g_iret hr hlk hK hG B rfl hf dX2_inode_19
def f_X2_data (x1 : Int32) (x2 : Int32) (g : CS) : (Int32 × CS) := (if (f_X2_isBelow x1 (40 : Int32)) = (0 : Int32) then ((-1 : Int32), g) else (if (f_X2_isBelow x2 (3 : Int32)) = (0 : Int32) then ((-1 : Int32), g) else ((1 : Int32), (sC_asked (f_X0_word (f_X2_dataAt x1 x2) g) g))))
set_option maxHeartbeats 4000000 in
set_option maxRecDepth 100000 in
theorem c_X2_data (l : Launch) (D : va_G) (cI cJ : ClassId) (h0 q1 q2 q3 sz : Nat) (g : CS) (x1 : Int32) (x2 : Int32) (r : Int32) (g1 : CS) (hf : f_X2_data x1 x2 g = (r, g1)) : Met l yX2_data wsX2_data { frames := 1, cells := 0, slots := 0, locals := 21 } (gPc D (gT cI cJ) sz (wC h0 q1 q2 q3 cJ g) [.ref h0, .int x1, .int x2]) (gQi D (gT cI cJ) (va_A (wC h0 q1 q2 q3 cJ g) sz) r (wC h0 q1 q2 q3 cJ g1)) 0 0 (va_A (wC h0 q1 q2 q3 cJ g) sz) := by
  refine gMet (cc := cX2_data) (maxL := 3) (ret := (some .int)) (by decide) rfl ?_ (Nat.le_of_ble_eq_true rfl)
  intro p e0 s m below meth c ls B hr hlk hsz hK hG hl
  have hA : ∀ q : Nat, s.heap.size ≤ q → va_A (wC h0 q1 q2 q3 cJ g) sz q := fun q h => Or.inr (hsz ▸ h)
  have hx := B.1
  have hb := B.2.1
  have hts := B.2.2.2.2
  have hl : lv_has ls 3 [(0, .ref h0), (1, .int x1), (2, .int x2)] := hl
  generalize va_A (wC h0 q1 q2 q3 cJ g) sz = A at hA hG ⊢
  have hinX2 : ∀ x ∈ wsX20, x ∈ wsX2_data := by decide +kernel
  have m_12 : Cond.fieldLink RX2 12 "BlockMover" "disk" "LBlockMover$Disk;" ∈ wsX2_data := by decide +kernel
  have m_140 : Cond.fieldLink RX2 140 "BlockMover" "lastAsked" "J" ∈ wsX2_data := by decide +kernel
  unfold f_X2_data at hf
  refine lv_iload_n hx hb dX2_data_0 rfl (lv_at hl 1 rfl) ?_
  refine lv_bipush (v := 40) hx hb dX2_data_1 (by decide) ?_
  refine gc_Si hA hK hl.1 hG B (c_X2_isBelow l D (gT cI cJ) _ (wC h0 q1 q2 q3 cJ g) x1 (40 : Int32) _ rfl) (va_cwS 2 hts gX2_data_X2_isBelow rfl rfl rfl (by decide +kernel) ⟨by decide, by decide⟩) rfl rfl (Nat.le_of_ble_eq_true rfl) dX2_data_3 ⟨Nat.zero_le _, Nat.zero_le _⟩ (fun H locs hG => ?_)
  refine lv_if_eq (tgt := 17) hx hb dX2_data_6 (by decide) (fun cq_1 => ?_) (fun cq_1 => ?_)
  · have hf := ifT cq_1 hf
    refine lv_iconst (v := -1) hx hb dX2_data_17 (by decide) ?_
    obtain ⟨e1, e2⟩ := Prod.mk.inj hf
    subst e2
    exact g_iret hr hlk hK hG B rfl e1 dX2_data_18
  · have hf := ifF cq_1 hf
    refine lv_iload_n hx hb dX2_data_9 rfl (lv_at hl 2 rfl) ?_
    refine lv_iconst (v := 3) hx hb dX2_data_10 (by decide) ?_
    refine gc_Si hA hK hl.1 hG B (c_X2_isBelow l D (gT cI cJ) _ (wC h0 q1 q2 q3 cJ g) x2 (3 : Int32) _ rfl) (va_cwS 2 hts gX2_data_X2_isBelow rfl rfl rfl (by decide +kernel) ⟨by decide, by decide⟩) rfl rfl (Nat.le_of_ble_eq_true rfl) dX2_data_11 ⟨Nat.zero_le _, Nat.zero_le _⟩ (fun H locs hG => ?_)
    refine lv_if_ne (tgt := 19) hx hb dX2_data_14 (by decide) (fun cq_2 => ?_) (fun cq_2 => ?_)
    · have hf := ifF cq_2 hf
      refine lv_aload_n hx hb dX2_data_19 rfl (lv_at hl 0 rfl) ?_
      refine lv_aload_n hx hb dX2_data_20 rfl (lv_at hl 0 rfl) ?_
      refine g_get hK hG B hinX2 0 rfl rfl 0 (by decide) m_12 rfl dX2_data_21 ?_
      refine lv_iload_n hx hb dX2_data_24 rfl (lv_at hl 1 rfl) ?_
      refine lv_iload_n hx hb dX2_data_25 rfl (lv_at hl 2 rfl) ?_
      refine gc_Si hA hK hl.1 hG B (c_X2_dataAt l D (gT cI cJ) _ (wC h0 q1 q2 q3 cJ g) x1 x2 _ rfl) (va_cwS 2 hts gX2_data_X2_dataAt rfl rfl rfl (by decide +kernel) ⟨by decide, by decide⟩) rfl rfl (Nat.le_of_ble_eq_true rfl) dX2_data_26 ⟨Nat.zero_le _, Nat.zero_le _⟩ (fun H locs hG => ?_)
      refine gc_Vl hA hK hl.1 hG B (c_X0_word l D cI cJ h0 q1 q2 q3 _ g (f_X2_dataAt x1 x2) _ rfl) (cwV 1 hts gX2_data_X0_word rfl rfl rfl (by decide +kernel) ⟨by decide, by decide⟩) 1 rfl rfl rfl rfl rfl (Nat.le_of_ble_eq_true rfl) dX2_data_29 ⟨Nat.zero_le _, Nat.zero_le _⟩ (fun H locs hG => ?_)
      refine gp_C_asked hK hG B hinX2 m_140 dX2_data_32 (fun H locs hG => ?_)
      refine lv_iconst (v := 1) hx hb dX2_data_35 (by decide) ?_
      obtain ⟨e1, e2⟩ := Prod.mk.inj hf
      subst e2
      exact g_iret hr hlk hK hG B rfl e1 dX2_data_36
    · have hf := ifT cq_2 hf
      refine lv_iconst (v := -1) hx hb dX2_data_17 (by decide) ?_
      obtain ⟨e1, e2⟩ := Prod.mk.inj hf
      subst e2
      exact g_iret hr hlk hK hG B rfl e1 dX2_data_18
def f_X2_read (x1 : Int32) (x2 : Int32) (x3 : Int32) (g : CS) : (Int32 × CS) := (if (f_X2_isDataOfFile x1 x2 x3 g) = (0 : Int32) then ((-1 : Int32), g) else ((1 : Int32), (sC_asked (f_X0_word (f_X2_dataAt (f_X2_placeOf x1 x2 g) x3) g) g)))
set_option maxHeartbeats 4000000 in
set_option maxRecDepth 100000 in
theorem c_X2_read (l : Launch) (D : va_G) (cI cJ : ClassId) (h0 q1 q2 q3 sz : Nat) (g : CS) (x1 : Int32) (x2 : Int32) (x3 : Int32) (r : Int32) (g1 : CS) (hf : f_X2_read x1 x2 x3 g = (r, g1)) : Met l yX2_read wsX2_read { frames := 4, cells := 0, slots := 0, locals := 87 } (gPc D (gT cI cJ) sz (wC h0 q1 q2 q3 cJ g) [.ref h0, .int x1, .int x2, .int x3]) (gQi D (gT cI cJ) (va_A (wC h0 q1 q2 q3 cJ g) sz) r (wC h0 q1 q2 q3 cJ g1)) 0 0 (va_A (wC h0 q1 q2 q3 cJ g) sz) := by
  refine gMet (cc := cX2_read) (maxL := 4) (ret := (some .int)) (by decide) rfl ?_ (Nat.le_of_ble_eq_true rfl)
  intro p e0 s m below meth c ls B hr hlk hsz hK hG hl
  have hA : ∀ q : Nat, s.heap.size ≤ q → va_A (wC h0 q1 q2 q3 cJ g) sz q := fun q h => Or.inr (hsz ▸ h)
  have hx := B.1
  have hb := B.2.1
  have hts := B.2.2.2.2
  have hl : lv_has ls 4 [(0, .ref h0), (1, .int x1), (2, .int x2), (3, .int x3)] := hl
  generalize va_A (wC h0 q1 q2 q3 cJ g) sz = A at hA hG ⊢
  have hinX2 : ∀ x ∈ wsX20, x ∈ wsX2_read := by decide +kernel
  have m_12 : Cond.fieldLink RX2 12 "BlockMover" "disk" "LBlockMover$Disk;" ∈ wsX2_read := by decide +kernel
  have m_140 : Cond.fieldLink RX2 140 "BlockMover" "lastAsked" "J" ∈ wsX2_read := by decide +kernel
  unfold f_X2_read at hf
  refine lv_aload_n hx hb dX2_read_0 rfl (lv_at hl 0 rfl) ?_
  refine lv_iload_n hx hb dX2_read_1 rfl (lv_at hl 1 rfl) ?_
  refine lv_iload_n hx hb dX2_read_2 rfl (lv_at hl 2 rfl) ?_
  refine lv_iload_n hx hb dX2_read_3 rfl (lv_at hl 3 rfl) ?_
  refine gc_Vi hA hK hl.1 hG B (c_X2_isDataOfFile l D cI cJ h0 q1 q2 q3 _ g x1 x2 x3 _ rfl) (cwV 3 hts gX2_read_X2_isDataOfFile rfl rfl rfl (by decide +kernel) ⟨by decide, by decide⟩) 0 rfl rfl rfl rfl rfl (Nat.le_of_ble_eq_true rfl) dX2_read_4 ⟨Nat.zero_le _, Nat.zero_le _⟩ (fun H locs hG => ?_)
  refine lv_if_ne (tgt := 12) hx hb dX2_read_7 (by decide) (fun cq_1 => ?_) (fun cq_1 => ?_)
  · have hf := ifF cq_1 hf
    refine lv_aload_n hx hb dX2_read_12 rfl (lv_at hl 0 rfl) ?_
    refine lv_aload_n hx hb dX2_read_13 rfl (lv_at hl 0 rfl) ?_
    refine g_get hK hG B hinX2 0 rfl rfl 0 (by decide) m_12 rfl dX2_read_14 ?_
    refine lv_aload_n hx hb dX2_read_17 rfl (lv_at hl 0 rfl) ?_
    refine lv_iload_n hx hb dX2_read_18 rfl (lv_at hl 1 rfl) ?_
    refine lv_iload_n hx hb dX2_read_19 rfl (lv_at hl 2 rfl) ?_
    refine gc_Vi hA hK hl.1 hG B (c_X2_placeOf l D cI cJ h0 q1 q2 q3 _ g x1 x2 _ rfl) (cwV 2 hts gX2_read_X2_placeOf rfl rfl rfl (by decide +kernel) ⟨by decide, by decide⟩) 0 rfl rfl rfl rfl rfl (Nat.le_of_ble_eq_true rfl) dX2_read_20 ⟨Nat.zero_le _, Nat.zero_le _⟩ (fun H locs hG => ?_)
    refine lv_iload_n hx hb dX2_read_23 rfl (lv_at hl 3 rfl) ?_
    refine gc_Si hA hK hl.1 hG B (c_X2_dataAt l D (gT cI cJ) _ (wC h0 q1 q2 q3 cJ g) (f_X2_placeOf x1 x2 g) x3 _ rfl) (va_cwS 2 hts gX2_read_X2_dataAt rfl rfl rfl (by decide +kernel) ⟨by decide, by decide⟩) rfl rfl (Nat.le_of_ble_eq_true rfl) dX2_read_24 ⟨Nat.zero_le _, Nat.zero_le _⟩ (fun H locs hG => ?_)
    refine gc_Vl hA hK hl.1 hG B (c_X0_word l D cI cJ h0 q1 q2 q3 _ g (f_X2_dataAt (f_X2_placeOf x1 x2 g) x3) _ rfl) (cwV 1 hts gX2_read_X0_word rfl rfl rfl (by decide +kernel) ⟨by decide, by decide⟩) 1 rfl rfl rfl rfl rfl (Nat.le_of_ble_eq_true rfl) dX2_read_27 ⟨Nat.zero_le _, Nat.zero_le _⟩ (fun H locs hG => ?_)
    refine gp_C_asked hK hG B hinX2 m_140 dX2_read_30 (fun H locs hG => ?_)
    refine lv_iconst (v := 1) hx hb dX2_read_33 (by decide) ?_
    obtain ⟨e1, e2⟩ := Prod.mk.inj hf
    subst e2
    exact g_iret hr hlk hK hG B rfl e1 dX2_read_34
  · have hf := ifT cq_1 hf
    refine lv_iconst (v := -1) hx hb dX2_read_10 (by decide) ?_
    obtain ⟨e1, e2⟩ := Prod.mk.inj hf
    subst e2
    exact g_iret hr hlk hK hG B rfl e1 dX2_read_11
def f_X2_asked  (g : CS) : Int64 := (C_asked g)
set_option maxHeartbeats 4000000 in
set_option maxRecDepth 100000 in
theorem c_X2_asked (l : Launch) (D : va_G) (cI cJ : ClassId) (h0 q1 q2 q3 sz : Nat) (g : CS)  (r : Int64) (hf : f_X2_asked  g = r) : Met l yX2_asked wsX2_asked { frames := 0, cells := 0, slots := 0, locals := 0 } (gPc D (gT cI cJ) sz (wC h0 q1 q2 q3 cJ g) [.ref h0]) (gQl D (gT cI cJ) (va_A (wC h0 q1 q2 q3 cJ g) sz) r (wC h0 q1 q2 q3 cJ g)) 0 0 (va_A (wC h0 q1 q2 q3 cJ g) sz) := by
  refine gMet (cc := cX2_asked) (maxL := 1) (ret := (some .long)) (by decide) rfl ?_ (Nat.le_of_ble_eq_true rfl)
  intro p e0 s m below meth c ls B hr hlk hsz hK hG hl
  have hA : ∀ q : Nat, s.heap.size ≤ q → va_A (wC h0 q1 q2 q3 cJ g) sz q := fun q h => Or.inr (hsz ▸ h)
  have hx := B.1
  have hb := B.2.1
  have hts := B.2.2.2.2
  have hl : lv_has ls 1 [(0, .ref h0)] := hl
  generalize va_A (wC h0 q1 q2 q3 cJ g) sz = A at hA hG ⊢
  have hinX2 : ∀ x ∈ wsX20, x ∈ wsX2_asked := by decide +kernel
  have m_140 : Cond.fieldLink RX2 140 "BlockMover" "lastAsked" "J" ∈ wsX2_asked := by decide +kernel
  unfold f_X2_asked at hf
  refine lv_aload_n hx hb dX2_asked_0 rfl (lv_at hl 0 rfl) ?_
  refine g_get hK hG B hinX2 0 rfl rfl 2 (by decide) m_140 rfl dX2_asked_1 ?_
  exact g_lret hr hlk hK hG B hf dX2_asked_4
def f_X2_record (x1 : Int32) (g : CS) : Int32 := (if (f_X2_isBelow x1 (4 : Int32)) = (0 : Int32) then (-1 : Int32) else (f_X2_recorded x1 g))
set_option maxHeartbeats 4000000 in
set_option maxRecDepth 100000 in
theorem c_X2_record (l : Launch) (D : va_G) (cI cJ : ClassId) (h0 q1 q2 q3 sz : Nat) (g : CS) (x1 : Int32) (r : Int32) (hf : f_X2_record x1 g = r) : Met l yX2_record wsX2_record { frames := 2, cells := 0, slots := 0, locals := 42 } (gPc D (gT cI cJ) sz (wC h0 q1 q2 q3 cJ g) [.ref h0, .int x1]) (gQi D (gT cI cJ) (va_A (wC h0 q1 q2 q3 cJ g) sz) r (wC h0 q1 q2 q3 cJ g)) 0 0 (va_A (wC h0 q1 q2 q3 cJ g) sz) := by
  refine gMet (cc := cX2_record) (maxL := 2) (ret := (some .int)) (by decide) rfl ?_ (Nat.le_of_ble_eq_true rfl)
  intro p e0 s m below meth c ls B hr hlk hsz hK hG hl
  have hA : ∀ q : Nat, s.heap.size ≤ q → va_A (wC h0 q1 q2 q3 cJ g) sz q := fun q h => Or.inr (hsz ▸ h)
  have hx := B.1
  have hb := B.2.1
  have hts := B.2.2.2.2
  have hl : lv_has ls 2 [(0, .ref h0), (1, .int x1)] := hl
  generalize va_A (wC h0 q1 q2 q3 cJ g) sz = A at hA hG ⊢
  unfold f_X2_record at hf
  refine lv_iload_n hx hb dX2_record_0 rfl (lv_at hl 1 rfl) ?_
  refine lv_iconst (v := 4) hx hb dX2_record_1 (by decide) ?_
  refine gc_Si hA hK hl.1 hG B (c_X2_isBelow l D (gT cI cJ) _ (wC h0 q1 q2 q3 cJ g) x1 (4 : Int32) _ rfl) (va_cwS 2 hts gX2_record_X2_isBelow rfl rfl rfl (by decide +kernel) ⟨by decide, by decide⟩) rfl rfl (Nat.le_of_ble_eq_true rfl) dX2_record_2 ⟨Nat.zero_le _, Nat.zero_le _⟩ (fun H locs hG => ?_)
  refine lv_if_eq (tgt := 16) hx hb dX2_record_5 (by decide) (fun cq_1 => ?_) (fun cq_1 => ?_)
  · have hf := ifT cq_1 hf
    refine lv_iconst (v := -1) hx hb dX2_record_16 (by decide) ?_
    exact g_iret hr hlk hK hG B rfl hf dX2_record_17
  · have hf := ifF cq_1 hf
    refine lv_aload_n hx hb dX2_record_8 rfl (lv_at hl 0 rfl) ?_
    refine lv_iload_n hx hb dX2_record_9 rfl (lv_at hl 1 rfl) ?_
    refine gc_Vi hA hK hl.1 hG B (c_X2_recorded l D cI cJ h0 q1 q2 q3 _ g x1 _ rfl) (cwV 1 hts gX2_record_X2_recorded rfl rfl rfl (by decide +kernel) ⟨by decide, by decide⟩) 0 rfl rfl rfl rfl rfl (Nat.le_of_ble_eq_true rfl) dX2_record_10 ⟨Nat.zero_le _, Nat.zero_le _⟩ (fun H locs hG => ?_)
    refine lv_goto (tgt := 17) hx hb dX2_record_13 (by decide) ?_
    exact g_iret hr hlk hK hG B rfl hf dX2_record_17
def f_X2_plan (x1 : Int32) (g : CS) : Option (Int32 × CS) := (if (f_X2_isBelow x1 (4 : Int32)) = (0 : Int32) then some ((-1 : Int32), g) else ((f_X2_findNextMove  g).bind (fun zv_2 => (if zv_2.1 = (1 : Int32) then (if x1 = (0 : Int32) then some ((f_X2_placeOf (C_pi zv_2.2) (C_pp zv_2.2) zv_2.2), zv_2.2) else (if x1 = (1 : Int32) then some ((C_pt zv_2.2), zv_2.2) else (if x1 = (2 : Int32) then some ((C_pi zv_2.2), zv_2.2) else some ((C_pp zv_2.2), zv_2.2)))) else some (zv_2.1, zv_2.2)))))
set_option maxHeartbeats 4000000 in
set_option maxRecDepth 100000 in
theorem c_X2_plan (l : Launch) (D : va_G) (cI cJ : ClassId) (h0 q1 q2 q3 sz : Nat) (g : CS) (x1 : Int32) (r : Int32) (g1 : CS) (hf : f_X2_plan x1 g = some (r, g1)) : Met l yX2_plan wsX2_plan { frames := 6, cells := 0, slots := 0, locals := 139 } (gPc D (gT cI cJ) sz (wC h0 q1 q2 q3 cJ g) [.ref h0, .int x1]) (gQi D (gT cI cJ) (va_A (wC h0 q1 q2 q3 cJ g) sz) r (wC h0 q1 q2 q3 cJ g1)) 0 0 (va_A (wC h0 q1 q2 q3 cJ g) sz) := by
  refine gMet (cc := cX2_plan) (maxL := 3) (ret := (some .int)) (by decide) rfl ?_ (Nat.le_of_ble_eq_true rfl)
  intro p e0 s m below meth c ls B hr hlk hsz hK hG hl
  have hA : ∀ q : Nat, s.heap.size ≤ q → va_A (wC h0 q1 q2 q3 cJ g) sz q := fun q h => Or.inr (hsz ▸ h)
  have hx := B.1
  have hb := B.2.1
  have hts := B.2.2.2.2
  have hl : lv_has ls 3 [(0, .ref h0), (1, .int x1)] := hl
  generalize va_A (wC h0 q1 q2 q3 cJ g) sz = A at hA hG ⊢
  have hinX1 : ∀ x ∈ wsX10, x ∈ wsX2_plan := by decide +kernel
  have hinX2 : ∀ x ∈ wsX20, x ∈ wsX2_plan := by decide +kernel
  have m_19 : Cond.fieldLink RX2 19 "BlockMover" "next" "LBlockMover$Plan;" ∈ wsX2_plan := by decide +kernel
  have m_109 : Cond.fieldLink RX2 109 "BlockMover$Plan" "inode" "I" ∈ wsX2_plan := by decide +kernel
  have m_112 : Cond.fieldLink RX2 112 "BlockMover$Plan" "place" "I" ∈ wsX2_plan := by decide +kernel
  have m_115 : Cond.fieldLink RX2 115 "BlockMover$Plan" "to" "I" ∈ wsX2_plan := by decide +kernel
  unfold f_X2_plan at hf
  refine lv_iload_n hx hb dX2_plan_0 rfl (lv_at hl 1 rfl) ?_
  refine lv_iconst (v := 4) hx hb dX2_plan_1 (by decide) ?_
  refine gc_Si hA hK hl.1 hG B (c_X2_isBelow l D (gT cI cJ) _ (wC h0 q1 q2 q3 cJ g) x1 (4 : Int32) _ rfl) (va_cwS 2 hts gX2_plan_X2_isBelow rfl rfl rfl (by decide +kernel) ⟨by decide, by decide⟩) rfl rfl (Nat.le_of_ble_eq_true rfl) dX2_plan_2 ⟨Nat.zero_le _, Nat.zero_le _⟩ (fun H locs hG => ?_)
  refine lv_if_ne (tgt := 10) hx hb dX2_plan_5 (by decide) (fun cq_1 => ?_) (fun cq_1 => ?_)
  · have hf := ifF cq_1 hf
    refine lv_aload_n hx hb dX2_plan_10 rfl (lv_at hl 0 rfl) ?_
    obtain ⟨zv_2, hqzv_2, hf⟩ := ob hf
    refine gc_Vi hA hK hl.1 hG B (c_X2_findNextMove l D cI cJ h0 q1 q2 q3 _ g  _ _ hqzv_2) (cwV 0 hts gX2_plan_X2_findNextMove rfl rfl rfl (by decide +kernel) ⟨by decide, by decide⟩) 0 rfl rfl rfl rfl rfl (Nat.le_of_ble_eq_true rfl) dX2_plan_11 ⟨Nat.zero_le _, Nat.zero_le _⟩ (fun H locs hG => ?_)
    refine lv_istore_n (lv' := [(2, .int zv_2.1), (0, .ref h0), (1, .int x1)]) hx hb dX2_plan_14 rfl hl (by decide) rfl (fun ls hl => ?_)
    refine lv_iload_n hx hb dX2_plan_15 rfl (lv_at hl 0 rfl) ?_
    refine lv_iconst (v := 1) hx hb dX2_plan_16 (by decide) ?_
    refine lv_icmp_eq (tgt := 22) hx hb dX2_plan_17 (by decide) (fun cq_3 => ?_) (fun cq_3 => ?_)
    · have hf := ifT cq_3 hf
      refine lv_iload_n hx hb dX2_plan_22 rfl (lv_at hl 2 rfl) ?_
      by_cases cq_4 : x1 = (0 : Int32)
      · have hf := ifT cq_4 hf
        refine lv_tableIn (off := 25) (tgt := 48) hx hb dX2_plan_23 (by rw [cq_4]; decide) (by rw [cq_4]; decide) (by rw [cq_4]; rfl) (by decide) ?_
        refine lv_aload_n hx hb dX2_plan_48 rfl (lv_at hl 1 rfl) ?_
        refine lv_aload_n hx hb dX2_plan_49 rfl (lv_at hl 1 rfl) ?_
        refine g_get hK hG B hinX2 0 rfl rfl 1 (by decide) m_19 rfl dX2_plan_50 ?_
        refine g_get hK hG B hinX1 2 rfl rfl 0 (by decide) m_109 rfl dX2_plan_53 ?_
        refine lv_aload_n hx hb dX2_plan_56 rfl (lv_at hl 1 rfl) ?_
        refine g_get hK hG B hinX2 0 rfl rfl 1 (by decide) m_19 rfl dX2_plan_57 ?_
        refine g_get hK hG B hinX1 2 rfl rfl 1 (by decide) m_112 rfl dX2_plan_60 ?_
        refine gc_Vi hA hK hl.1 hG B (c_X2_placeOf l D cI cJ h0 q1 q2 q3 _ zv_2.2 (C_pi zv_2.2) (C_pp zv_2.2) _ rfl) (cwV 2 hts gX2_plan_X2_placeOf rfl rfl rfl (by decide +kernel) ⟨by decide, by decide⟩) 0 rfl rfl rfl rfl rfl (Nat.le_of_ble_eq_true rfl) dX2_plan_63 ⟨Nat.zero_le _, Nat.zero_le _⟩ (fun H locs hG => ?_)
        have hf := Option.some.inj hf
        obtain ⟨e1, e2⟩ := Prod.mk.inj hf
        subst e2
        exact g_iret hr hlk hK hG B rfl e1 dX2_plan_66
      have hf := ifF cq_4 hf
      by_cases cq_5 : x1 = (1 : Int32)
      · have hf := ifT cq_5 hf
        refine lv_tableIn (off := 44) (tgt := 67) hx hb dX2_plan_23 (by rw [cq_5]; decide) (by rw [cq_5]; decide) (by rw [cq_5]; rfl) (by decide) ?_
        refine lv_aload_n hx hb dX2_plan_67 rfl (lv_at hl 1 rfl) ?_
        refine g_get hK hG B hinX2 0 rfl rfl 1 (by decide) m_19 rfl dX2_plan_68 ?_
        refine g_get hK hG B hinX1 2 rfl rfl 2 (by decide) m_115 rfl dX2_plan_71 ?_
        have hf := Option.some.inj hf
        obtain ⟨e1, e2⟩ := Prod.mk.inj hf
        subst e2
        exact g_iret hr hlk hK hG B rfl e1 dX2_plan_74
      have hf := ifF cq_5 hf
      by_cases cq_6 : x1 = (2 : Int32)
      · have hf := ifT cq_6 hf
        refine lv_tableIn (off := 52) (tgt := 75) hx hb dX2_plan_23 (by rw [cq_6]; decide) (by rw [cq_6]; decide) (by rw [cq_6]; rfl) (by decide) ?_
        refine lv_aload_n hx hb dX2_plan_75 rfl (lv_at hl 1 rfl) ?_
        refine g_get hK hG B hinX2 0 rfl rfl 1 (by decide) m_19 rfl dX2_plan_76 ?_
        refine g_get hK hG B hinX1 2 rfl rfl 0 (by decide) m_109 rfl dX2_plan_79 ?_
        have hf := Option.some.inj hf
        obtain ⟨e1, e2⟩ := Prod.mk.inj hf
        subst e2
        exact g_iret hr hlk hK hG B rfl e1 dX2_plan_82
      have hf := ifF cq_6 hf
      have ncq_4 := lv_neT cq_4 (a := 0) (by decide)
      have ncq_5 := lv_neT cq_5 (a := 1) (by decide)
      have ncq_6 := lv_neT cq_6 (a := 2) (by decide)
      refine lv_tableOut (tgt := 83) hx hb dX2_plan_23 (by omega) (by decide) ?_
      refine lv_aload_n hx hb dX2_plan_83 rfl (lv_at hl 1 rfl) ?_
      refine g_get hK hG B hinX2 0 rfl rfl 1 (by decide) m_19 rfl dX2_plan_84 ?_
      refine g_get hK hG B hinX1 2 rfl rfl 1 (by decide) m_112 rfl dX2_plan_87 ?_
      have hf := Option.some.inj hf
      obtain ⟨e1, e2⟩ := Prod.mk.inj hf
      subst e2
      exact g_iret hr hlk hK hG B rfl e1 dX2_plan_90
    · have hf := ifF cq_3 hf
      refine lv_iload_n hx hb dX2_plan_20 rfl (lv_at hl 0 rfl) ?_
      have hf := Option.some.inj hf
      obtain ⟨e1, e2⟩ := Prod.mk.inj hf
      subst e2
      exact g_iret hr hlk hK hG B rfl e1 dX2_plan_21
  · have hf := ifT cq_1 hf
    refine lv_iconst (v := -1) hx hb dX2_plan_8 (by decide) ?_
    have hf := Option.some.inj hf
    obtain ⟨e1, e2⟩ := Prod.mk.inj hf
    subst e2
    exact g_iret hr hlk hK hG B rfl e1 dX2_plan_9
def b_X2_runs_22 (y1_22 : Int32) (y2_22 : Int32) (g : CS) (y3_22 : Int32) (y4_22 : Int32) : Option ((Int32) ⊕ (Int32 × Int32)) := (if y2_22 ≤ y4_22 then some (.inl y3_22) else (if y4_22 = (0 : Int32) then some (.inr ((y3_22 + (1 : Int32)), (y4_22 + (1 : Int32)))) else (if (f_X2_placeOf y1_22 y4_22 g) = ((f_X2_placeOf y1_22 (y4_22 - (1 : Int32)) g) + (1 : Int32)) then some (.inr (y3_22, (y4_22 + (1 : Int32)))) else some (.inr ((y3_22 + (1 : Int32)), (y4_22 + (1 : Int32)))))))
def f_X2_runs (x1 : Int32) (g : CS) : Option Int32 := (if (f_X2_isOfKind x1 (2 : Int32) g) = (0 : Int32) then some (-1 : Int32) else ((itl (fun a : Int32 × Int32 => b_X2_runs_22 x1 (f_X2_sizeOf x1 g) g a.1 a.2) 300 ((0 : Int32), (0 : Int32))).bind (fun ev_5 => some ev_5)))
set_option maxHeartbeats 4000000 in
set_option maxRecDepth 100000 in
theorem c_X2_runs (l : Launch) (D : va_G) (cI cJ : ClassId) (h0 q1 q2 q3 sz : Nat) (g : CS) (x1 : Int32) (r : Int32) (hf : f_X2_runs x1 g = some r) : Met l yX2_runs wsX2_runs { frames := 3, cells := 0, slots := 0, locals := 64 } (gPc D (gT cI cJ) sz (wC h0 q1 q2 q3 cJ g) [.ref h0, .int x1]) (gQi D (gT cI cJ) (va_A (wC h0 q1 q2 q3 cJ g) sz) r (wC h0 q1 q2 q3 cJ g)) 0 0 (va_A (wC h0 q1 q2 q3 cJ g) sz) := by
  refine gMet (cc := cX2_runs) (maxL := 5) (ret := (some .int)) (by decide) rfl ?_ (Nat.le_of_ble_eq_true rfl)
  intro p e0 s m below meth c ls B hr hlk hsz hK hG hl
  have hA : ∀ q : Nat, s.heap.size ≤ q → va_A (wC h0 q1 q2 q3 cJ g) sz q := fun q h => Or.inr (hsz ▸ h)
  have hx := B.1
  have hb := B.2.1
  have hts := B.2.2.2.2
  have hl : lv_has ls 5 [(0, .ref h0), (1, .int x1)] := hl
  generalize va_A (wC h0 q1 q2 q3 cJ g) sz = A at hA hG ⊢
  have L22 : ∀ (res : (Int32)) (y1_22 : Int32) (y2_22 : Int32), (∀ (H1 : Heap) (locs1 : List Loc) (ls1 : Array Slot) (e : Int32), res = e → gG D A s.heap (wC h0 q1 q2 q3 cJ g) H1 locs1 → lv_has ls1 5 [(3, .int e)] → W p l e0 { frames := 3, cells := 0, slots := 0, locals := 64 } s m ([.ref h0, .int x1] : List Value).toArray below meth c H1 locs1 0 0 (MQ below (gQi D (gT cI cJ) A r (wC h0 q1 q2 q3 cJ g)) ([.ref h0, .int x1] : List Value).toArray s 0 0 A) (F0 m 63 ls1 [])) → ∀ (n : Nat) (y3_22 : Int32) (y4_22 : Int32) (H : Heap) (locs : List Loc) (ls : Array Slot), gG D A s.heap (wC h0 q1 q2 q3 cJ g) H locs → lv_has ls 5 [(0, .ref h0), (1, .int y1_22), (2, .int y2_22), (3, .int y3_22), (4, .int y4_22)] → itl (fun a : Int32 × Int32 => b_X2_runs_22 y1_22 y2_22 g a.1 a.2) n (y3_22, y4_22) = some res → W p l e0 { frames := 3, cells := 0, slots := 0, locals := 64 } s m ([.ref h0, .int x1] : List Value).toArray below meth c H locs 0 0 (MQ below (gQi D (gT cI cJ) A r (wC h0 q1 q2 q3 cJ g)) ([.ref h0, .int x1] : List Value).toArray s 0 0 A) (F0 m 22 ls []) := by
    intro res y1_22 y2_22 hKe22 n
    induction n with
    | zero => exact fun y3_22 y4_22 H locs ls hG hl hf => (itl_0 hf).elim
    | succ n ih =>
      intro y3_22 y4_22 H locs ls hG hl hf
      obtain ⟨o, hf, ho22, hn22⟩ := itl_s hf
      have hf : b_X2_runs_22 y1_22 y2_22 g y3_22 y4_22 = some o := hf
      unfold b_X2_runs_22 at hf
      refine lv_iload hx hb dX2_runs_22 (lv_at hl 4 rfl) ?_
      refine lv_iload_n hx hb dX2_runs_24 rfl (lv_at hl 2 rfl) ?_
      refine lv_icmp_ge (tgt := 63) hx hb dX2_runs_25 (by decide) (fun cq_2 => ?_) (fun cq_2 => ?_)
      · have hf := ifT cq_2 hf
        have hres := ho22 _ (Option.some.inj hf).symm
        exact hKe22 _ _ _ y3_22 hres.symm hG (lv_sub hl [3] rfl)
      · have hf := ifF cq_2 hf
        refine lv_iload hx hb dX2_runs_28 (lv_at hl 4 rfl) ?_
        refine lv_if_eq (tgt := 54) hx hb dX2_runs_30 (by decide) (fun cq_3 => ?_) (fun cq_3 => ?_)
        · have hf := ifT cq_3 hf
          refine lv_iinc (v := (y3_22 + (1 : Int32))) (lv' := [(3, .int (y3_22 + (1 : Int32))), (0, .ref h0), (1, .int y1_22), (2, .int y2_22), (4, .int y4_22)]) hx hb dX2_runs_54 hl (k := 3) rfl rfl (by decide) rfl (fun ls hl => ?_)
          refine lv_iinc (v := (y4_22 + (1 : Int32))) (lv' := [(4, .int (y4_22 + (1 : Int32))), (3, .int (y3_22 + (1 : Int32))), (0, .ref h0), (1, .int y1_22), (2, .int y2_22)]) hx hb dX2_runs_57 hl (k := 4) rfl rfl (by decide) rfl (fun ls hl => ?_)
          refine lv_goto (tgt := 22) hx hb dX2_runs_60 (by decide) ?_
          have hn := hn22 _ (Option.some.inj hf).symm
          exact ih (y3_22 + (1 : Int32)) (y4_22 + (1 : Int32)) _ _ _ hG (lv_sub hl [2, 3, 4, 1, 0] rfl) hn
        · have hf := ifF cq_3 hf
          refine lv_aload_n hx hb dX2_runs_33 rfl (lv_at hl 0 rfl) ?_
          refine lv_iload_n hx hb dX2_runs_34 rfl (lv_at hl 1 rfl) ?_
          refine lv_iload hx hb dX2_runs_35 (lv_at hl 4 rfl) ?_
          refine gc_Vi hA hK hl.1 hG B (c_X2_placeOf l D cI cJ h0 q1 q2 q3 _ g y1_22 y4_22 _ rfl) (cwV 2 hts gX2_runs_X2_placeOf rfl rfl rfl (by decide +kernel) ⟨by decide, by decide⟩) 0 rfl rfl rfl rfl rfl (Nat.le_of_ble_eq_true rfl) dX2_runs_37 ⟨Nat.zero_le _, Nat.zero_le _⟩ (fun H locs hG => ?_)
          refine lv_aload_n hx hb dX2_runs_40 rfl (lv_at hl 0 rfl) ?_
          refine lv_iload_n hx hb dX2_runs_41 rfl (lv_at hl 1 rfl) ?_
          refine lv_iload hx hb dX2_runs_42 (lv_at hl 4 rfl) ?_
          refine lv_iconst (v := 1) hx hb dX2_runs_44 (by decide) ?_
          refine lv_isub hx hb dX2_runs_45 ?_
          refine gc_Vi hA hK hl.1 hG B (c_X2_placeOf l D cI cJ h0 q1 q2 q3 _ g y1_22 (y4_22 - (1 : Int32)) _ rfl) (cwV 2 hts gX2_runs_X2_placeOf rfl rfl rfl (by decide +kernel) ⟨by decide, by decide⟩) 0 rfl rfl rfl rfl rfl (Nat.le_of_ble_eq_true rfl) dX2_runs_46 ⟨Nat.zero_le _, Nat.zero_le _⟩ (fun H locs hG => ?_)
          refine lv_iconst (v := 1) hx hb dX2_runs_49 (by decide) ?_
          refine lv_iadd hx hb dX2_runs_50 ?_
          refine lv_icmp_eq (tgt := 57) hx hb dX2_runs_51 (by decide) (fun cq_4 => ?_) (fun cq_4 => ?_)
          · have hf := ifT cq_4 hf
            refine lv_iinc (v := (y4_22 + (1 : Int32))) (lv' := [(4, .int (y4_22 + (1 : Int32))), (0, .ref h0), (1, .int y1_22), (2, .int y2_22), (3, .int y3_22)]) hx hb dX2_runs_57 hl (k := 4) rfl rfl (by decide) rfl (fun ls hl => ?_)
            refine lv_goto (tgt := 22) hx hb dX2_runs_60 (by decide) ?_
            have hn := hn22 _ (Option.some.inj hf).symm
            exact ih y3_22 (y4_22 + (1 : Int32)) _ _ _ hG (lv_sub hl [1, 2, 3, 4, 0] rfl) hn
          · have hf := ifF cq_4 hf
            refine lv_iinc (v := (y3_22 + (1 : Int32))) (lv' := [(3, .int (y3_22 + (1 : Int32))), (0, .ref h0), (1, .int y1_22), (2, .int y2_22), (4, .int y4_22)]) hx hb dX2_runs_54 hl (k := 3) rfl rfl (by decide) rfl (fun ls hl => ?_)
            refine lv_iinc (v := (y4_22 + (1 : Int32))) (lv' := [(4, .int (y4_22 + (1 : Int32))), (3, .int (y3_22 + (1 : Int32))), (0, .ref h0), (1, .int y1_22), (2, .int y2_22)]) hx hb dX2_runs_57 hl (k := 4) rfl rfl (by decide) rfl (fun ls hl => ?_)
            refine lv_goto (tgt := 22) hx hb dX2_runs_60 (by decide) ?_
            have hn := hn22 _ (Option.some.inj hf).symm
            exact ih (y3_22 + (1 : Int32)) (y4_22 + (1 : Int32)) _ _ _ hG (lv_sub hl [2, 3, 4, 1, 0] rfl) hn
  unfold f_X2_runs at hf
  refine lv_aload_n hx hb dX2_runs_0 rfl (lv_at hl 0 rfl) ?_
  refine lv_iload_n hx hb dX2_runs_1 rfl (lv_at hl 1 rfl) ?_
  refine lv_iconst (v := 2) hx hb dX2_runs_2 (by decide) ?_
  refine gc_Vi hA hK hl.1 hG B (c_X2_isOfKind l D cI cJ h0 q1 q2 q3 _ g x1 (2 : Int32) _ rfl) (cwV 2 hts gX2_runs_X2_isOfKind rfl rfl rfl (by decide +kernel) ⟨by decide, by decide⟩) 0 rfl rfl rfl rfl rfl (Nat.le_of_ble_eq_true rfl) dX2_runs_3 ⟨Nat.zero_le _, Nat.zero_le _⟩ (fun H locs hG => ?_)
  refine lv_if_ne (tgt := 11) hx hb dX2_runs_6 (by decide) (fun cq_1 => ?_) (fun cq_1 => ?_)
  · have hf := ifF cq_1 hf
    refine lv_aload_n hx hb dX2_runs_11 rfl (lv_at hl 0 rfl) ?_
    refine lv_iload_n hx hb dX2_runs_12 rfl (lv_at hl 1 rfl) ?_
    refine gc_Vi hA hK hl.1 hG B (c_X2_sizeOf l D cI cJ h0 q1 q2 q3 _ g x1 _ rfl) (cwV 1 hts gX2_runs_X2_sizeOf rfl rfl rfl (by decide +kernel) ⟨by decide, by decide⟩) 0 rfl rfl rfl rfl rfl (Nat.le_of_ble_eq_true rfl) dX2_runs_13 ⟨Nat.zero_le _, Nat.zero_le _⟩ (fun H locs hG => ?_)
    refine lv_istore_n (lv' := [(2, .int (f_X2_sizeOf x1 g)), (0, .ref h0), (1, .int x1)]) hx hb dX2_runs_16 rfl hl (by decide) rfl (fun ls hl => ?_)
    refine lv_iconst (v := 0) hx hb dX2_runs_17 (by decide) ?_
    refine lv_istore_n (lv' := [(3, .int (0 : Int32)), (2, .int (f_X2_sizeOf x1 g)), (0, .ref h0), (1, .int x1)]) hx hb dX2_runs_18 rfl hl (by decide) rfl (fun ls hl => ?_)
    refine lv_iconst (v := 0) hx hb dX2_runs_19 (by decide) ?_
    refine lv_istore (lv' := [(4, .int (0 : Int32)), (3, .int (0 : Int32)), (2, .int (f_X2_sizeOf x1 g)), (0, .ref h0), (1, .int x1)]) hx hb dX2_runs_20 hl (by decide) rfl (fun ls hl => ?_)
    obtain ⟨zv_5, hizv_5, hf⟩ := ob hf
    refine L22 zv_5 x1 (f_X2_sizeOf x1 g) (fun H locs ls ev_5 hres hG hl => ?_) 300 (0 : Int32) (0 : Int32) _ _ _ hG (lv_sub hl [3, 4, 2, 1, 0] rfl) hizv_5
    have hres := hres.symm
    subst hres
    refine lv_iload_n hx hb dX2_runs_63 rfl (lv_at hl 0 rfl) ?_
    have hf := Option.some.inj hf
    exact g_iret hr hlk hK hG B rfl hf dX2_runs_64
  · have hf := ifT cq_1 hf
    refine lv_iconst (v := -1) hx hb dX2_runs_9 (by decide) ?_
    have hf := Option.some.inj hf
    exact g_iret hr hlk hK hG B rfl hf dX2_runs_10
