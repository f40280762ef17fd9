def bc_9 (x : Int64) : Int64 := (x - ((x.toUInt64 >>> ((1 : Int32).toInt64.toUInt64 &&& Int64.toUInt64 63)).toInt64 &&& (6148914691236517205 : Int64)))
def bc_23 (x : Int64) : Int64 := ((x &&& (3689348814741910323 : Int64)) + ((x.toUInt64 >>> ((2 : Int32).toInt64.toUInt64 &&& Int64.toUInt64 63)).toInt64 &&& (3689348814741910323 : Int64)))
def bc_33 (x : Int64) : Int64 := ((x + (x.toUInt64 >>> ((4 : Int32).toInt64.toUInt64 &&& Int64.toUInt64 63)).toInt64) &&& (1085102592571150095 : Int64))
def bc_40 (x : Int64) : Int64 := (x + (x.toUInt64 >>> ((8 : Int32).toInt64.toUInt64 &&& Int64.toUInt64 63)).toInt64)
def bc_47 (x : Int64) : Int64 := (x + (x.toUInt64 >>> ((16 : Int32).toInt64.toUInt64 &&& Int64.toUInt64 63)).toInt64)
def bc_54 (x : Int64) : Int64 := (x + (x.toUInt64 >>> ((32 : Int32).toInt64.toUInt64 &&& Int64.toUInt64 63)).toInt64)
def f_J13_bitCount_95d88 (x0 : Int64) : Int32 := ((bc_54 (bc_47 (bc_40 (bc_33 (bc_23 (bc_9 x0)))))).toInt32 &&& (127 : Int32))
set_option maxHeartbeats 4000000 in
set_option maxRecDepth 100000 in
theorem c_J13_bitCount_95d88 (l : Launch) (D : va_G) (tys : List (ClassId × FieldType)) (sz : Nat) (w : va_W) (x0 : Int64) (r : Int32) (hf : f_J13_bitCount_95d88 x0 = r) : Met l yJ13_bitCount_95d88 wsJ13_bitCount_95d88 { frames := 0, cells := 0, slots := 0, locals := 0 } (gPc D tys sz w [.long x0]) (gQi D tys (va_A w sz) r w) 0 0 (va_A w sz) := by
  refine gMet (cc := cJ13_bitCount_95d88) (maxL := 2) (ret := (some .int)) (by decide) rfl ?_ (Nat.le_of_ble_eq_true rfl)
  intro p e0 s m below meth c ls B hr hlk hsz hK hG hl
  have hA : ∀ q : Nat, s.heap.size ≤ q → va_A w sz q := fun q h => Or.inr (hsz ▸ h)
  have hx := B.1
  have hb := B.2.1
  have hts := B.2.2.2.2
  have hl : lv_has ls 2 [(0, .long x0)] := hl
  generalize va_A w sz = A at hA hG ⊢
  unfold f_J13_bitCount_95d88 at hf
  refine lv_lload_n hx hb dJ13_bitCount_95d88_0 rfl (lv_at hl 0 rfl) ?_
  refine lv_lload_n hx hb dJ13_bitCount_95d88_1 rfl (lv_at hl 0 rfl) ?_
  refine lv_iconst (v := 1) hx hb dJ13_bitCount_95d88_2 (by decide) ?_
  refine lv_lushr hx hb dJ13_bitCount_95d88_3 rfl ?_
  refine lv_ldc2 (v := 6148914691236517205) hx hb B.2.2.2.1 (hts (.constantLong RJ13 314 (6148914691236517205)) (by decide +kernel)) dJ13_bitCount_95d88_4 ?_
  refine lv_land hx hb dJ13_bitCount_95d88_7 ?_
  refine lv_lsub hx hb dJ13_bitCount_95d88_8 ?_
  refine lv_lstore_n (lv' := [(0, .long (bc_9 x0))]) hx hb dJ13_bitCount_95d88_9 rfl hl (by decide) rfl (fun ls hl => ?_)
  refine lv_lload_n hx hb dJ13_bitCount_95d88_10 rfl (lv_at hl 0 rfl) ?_
  refine lv_ldc2 (v := 3689348814741910323) hx hb B.2.2.2.1 (hts (.constantLong RJ13 316 (3689348814741910323)) (by decide +kernel)) dJ13_bitCount_95d88_11 ?_
  refine lv_land hx hb dJ13_bitCount_95d88_14 ?_
  refine lv_lload_n hx hb dJ13_bitCount_95d88_15 rfl (lv_at hl 0 rfl) ?_
  refine lv_iconst (v := 2) hx hb dJ13_bitCount_95d88_16 (by decide) ?_
  refine lv_lushr hx hb dJ13_bitCount_95d88_17 rfl ?_
  refine lv_ldc2 (v := 3689348814741910323) hx hb B.2.2.2.1 (hts (.constantLong RJ13 316 (3689348814741910323)) (by decide +kernel)) dJ13_bitCount_95d88_18 ?_
  refine lv_land hx hb dJ13_bitCount_95d88_21 ?_
  refine lv_ladd hx hb dJ13_bitCount_95d88_22 ?_
  refine lv_lstore_n (lv' := [(0, .long (bc_23 (bc_9 x0)))]) hx hb dJ13_bitCount_95d88_23 rfl hl (by decide) rfl (fun ls hl => ?_)
  refine lv_lload_n hx hb dJ13_bitCount_95d88_24 rfl (lv_at hl 0 rfl) ?_
  refine lv_lload_n hx hb dJ13_bitCount_95d88_25 rfl (lv_at hl 0 rfl) ?_
  refine lv_iconst (v := 4) hx hb dJ13_bitCount_95d88_26 (by decide) ?_
  refine lv_lushr hx hb dJ13_bitCount_95d88_27 rfl ?_
  refine lv_ladd hx hb dJ13_bitCount_95d88_28 ?_
  refine lv_ldc2 (v := 1085102592571150095) hx hb B.2.2.2.1 (hts (.constantLong RJ13 318 (1085102592571150095)) (by decide +kernel)) dJ13_bitCount_95d88_29 ?_
  refine lv_land hx hb dJ13_bitCount_95d88_32 ?_
  refine lv_lstore_n (lv' := [(0, .long (bc_33 (bc_23 (bc_9 x0))))]) hx hb dJ13_bitCount_95d88_33 rfl hl (by decide) rfl (fun ls hl => ?_)
  refine lv_lload_n hx hb dJ13_bitCount_95d88_34 rfl (lv_at hl 0 rfl) ?_
  refine lv_lload_n hx hb dJ13_bitCount_95d88_35 rfl (lv_at hl 0 rfl) ?_
  refine lv_bipush (v := 8) hx hb dJ13_bitCount_95d88_36 (by decide) ?_
  refine lv_lushr hx hb dJ13_bitCount_95d88_38 rfl ?_
  refine lv_ladd hx hb dJ13_bitCount_95d88_39 ?_
  refine lv_lstore_n (lv' := [(0, .long (bc_40 (bc_33 (bc_23 (bc_9 x0)))))]) hx hb dJ13_bitCount_95d88_40 rfl hl (by decide) rfl (fun ls hl => ?_)
  refine lv_lload_n hx hb dJ13_bitCount_95d88_41 rfl (lv_at hl 0 rfl) ?_
  refine lv_lload_n hx hb dJ13_bitCount_95d88_42 rfl (lv_at hl 0 rfl) ?_
  refine lv_bipush (v := 16) hx hb dJ13_bitCount_95d88_43 (by decide) ?_
  refine lv_lushr hx hb dJ13_bitCount_95d88_45 rfl ?_
  refine lv_ladd hx hb dJ13_bitCount_95d88_46 ?_
  refine lv_lstore_n (lv' := [(0, .long (bc_47 (bc_40 (bc_33 (bc_23 (bc_9 x0))))))]) hx hb dJ13_bitCount_95d88_47 rfl hl (by decide) rfl (fun ls hl => ?_)
  refine lv_lload_n hx hb dJ13_bitCount_95d88_48 rfl (lv_at hl 0 rfl) ?_
  refine lv_lload_n hx hb dJ13_bitCount_95d88_49 rfl (lv_at hl 0 rfl) ?_
  refine lv_bipush (v := 32) hx hb dJ13_bitCount_95d88_50 (by decide) ?_
  refine lv_lushr hx hb dJ13_bitCount_95d88_52 rfl ?_
  refine lv_ladd hx hb dJ13_bitCount_95d88_53 ?_
  refine lv_lstore_n (lv' := [(0, .long (bc_54 (bc_47 (bc_40 (bc_33 (bc_23 (bc_9 x0)))))))]) hx hb dJ13_bitCount_95d88_54 rfl hl (by decide) rfl (fun ls hl => ?_)
  refine lv_lload_n hx hb dJ13_bitCount_95d88_55 rfl (lv_at hl 0 rfl) ?_
  refine lv_l2i hx hb dJ13_bitCount_95d88_56 rfl ?_
  refine lv_bipush (v := 127) hx hb dJ13_bitCount_95d88_57 (by decide) ?_
  refine lv_iand hx hb dJ13_bitCount_95d88_59 ?_
  exact g_iret hr hlk hK hG B rfl hf dJ13_bitCount_95d88_60
def b_X2_countInodes_4  (g : CS) (y1_4 : Int32) (y2_4 : Int32) : Option ((Int32) ⊕ (Int32 × Int32)) := (if (12 : Int32) ≤ y2_4 then some (.inl y1_4) else (if (f_X2_kindOf y2_4 g) = (0 : Int32) then some (.inr (y1_4, (y2_4 + (1 : Int32)))) else some (.inr ((y1_4 + (1 : Int32)), (y2_4 + (1 : Int32))))))
def f_X2_countInodes  (g : CS) : Option Int32 := ((itl (fun a : Int32 × Int32 => b_X2_countInodes_4  g a.1 a.2) 300 ((0 : Int32), (0 : Int32))).bind (fun ev_3 => some ev_3))
set_option maxHeartbeats 4000000 in
set_option maxRecDepth 100000 in
theorem c_X2_countInodes (l : Launch) (D : va_G) (cI cJ : ClassId) (h0 q1 q2 q3 sz : Nat) (g : CS)  (r : Int32) (hf : f_X2_countInodes  g = some r) : Met l yX2_countInodes wsX2_countInodes { frames := 2, cells := 0, slots := 0, locals := 42 } (gPc D (gT cI cJ) sz (wC h0 q1 q2 q3 cJ g) [.ref h0]) (gQi D (gT cI cJ) (va_A (wC h0 q1 q2 q3 cJ g) sz) r (wC h0 q1 q2 q3 cJ g)) 0 0 (va_A (wC h0 q1 q2 q3 cJ g) sz) := by
  refine gMet (cc := cX2_countInodes) (maxL := 3) (ret := (some .int)) (by decide) rfl ?_ (Nat.le_of_ble_eq_true rfl)
  intro p e0 s m below meth c ls B hr hlk hsz hK hG hl
  have hA : ∀ q : Nat, s.heap.size ≤ q → va_A (wC h0 q1 q2 q3 cJ g) sz q := fun q h => Or.inr (hsz ▸ h)
  have hx := B.1
  have hb := B.2.1
  have hts := B.2.2.2.2
  have hl : lv_has ls 3 [(0, .ref h0)] := hl
  generalize va_A (wC h0 q1 q2 q3 cJ g) sz = A at hA hG ⊢
  have L4 : ∀ (res : (Int32)) , (∀ (H1 : Heap) (locs1 : List Loc) (ls1 : Array Slot) (e : Int32), res = e → gG D A s.heap (wC h0 q1 q2 q3 cJ g) H1 locs1 → lv_has ls1 3 [(1, .int e)] → W p l e0 { frames := 2, cells := 0, slots := 0, locals := 42 } s m ([.ref h0] : List Value).toArray below meth c H1 locs1 0 0 (MQ below (gQi D (gT cI cJ) A r (wC h0 q1 q2 q3 cJ g)) ([.ref h0] : List Value).toArray s 0 0 A) (F0 m 27 ls1 [])) → ∀ (n : Nat) (y1_4 : Int32) (y2_4 : Int32) (H : Heap) (locs : List Loc) (ls : Array Slot), gG D A s.heap (wC h0 q1 q2 q3 cJ g) H locs → lv_has ls 3 [(0, .ref h0), (1, .int y1_4), (2, .int y2_4)] → itl (fun a : Int32 × Int32 => b_X2_countInodes_4  g a.1 a.2) n (y1_4, y2_4) = some res → W p l e0 { frames := 2, cells := 0, slots := 0, locals := 42 } s m ([.ref h0] : List Value).toArray below meth c H locs 0 0 (MQ below (gQi D (gT cI cJ) A r (wC h0 q1 q2 q3 cJ g)) ([.ref h0] : List Value).toArray s 0 0 A) (F0 m 4 ls []) := by
    intro res  hKe4 n
    induction n with
    | zero => exact fun y1_4 y2_4 H locs ls hG hl hf => (itl_0 hf).elim
    | succ n ih =>
      intro y1_4 y2_4 H locs ls hG hl hf
      obtain ⟨o, hf, ho4, hn4⟩ := itl_s hf
      have hf : b_X2_countInodes_4  g y1_4 y2_4 = some o := hf
      unfold b_X2_countInodes_4 at hf
      refine lv_iload_n hx hb dX2_countInodes_4 rfl (lv_at hl 2 rfl) ?_
      refine lv_bipush (v := 12) hx hb dX2_countInodes_5 (by decide) ?_
      refine lv_icmp_ge (tgt := 27) hx hb dX2_countInodes_7 (by decide) (fun cq_1 => ?_) (fun cq_1 => ?_)
      · have hf := ifT cq_1 hf
        have hres := ho4 _ (Option.some.inj hf).symm
        exact hKe4 _ _ _ y1_4 hres.symm hG (lv_sub hl [1] rfl)
      · have hf := ifF cq_1 hf
        refine lv_aload_n hx hb dX2_countInodes_10 rfl (lv_at hl 0 rfl) ?_
        refine lv_iload_n hx hb dX2_countInodes_11 rfl (lv_at hl 2 rfl) ?_
        refine gc_Vi hA hK hl.1 hG B (c_X2_kindOf l D cI cJ h0 q1 q2 q3 _ g y2_4 _ rfl) (cwV 1 hts gX2_countInodes_X2_kindOf rfl rfl rfl (by decide +kernel) ⟨by decide, by decide⟩) 0 rfl rfl rfl rfl rfl (Nat.le_of_ble_eq_true rfl) dX2_countInodes_12 ⟨Nat.zero_le _, Nat.zero_le _⟩ (fun H locs hG => ?_)
        refine lv_if_eq (tgt := 21) hx hb dX2_countInodes_15 (by decide) (fun cq_2 => ?_) (fun cq_2 => ?_)
        · have hf := ifT cq_2 hf
          refine lv_iinc (v := (y2_4 + (1 : Int32))) (lv' := [(2, .int (y2_4 + (1 : Int32))), (0, .ref h0), (1, .int y1_4)]) hx hb dX2_countInodes_21 hl (k := 2) rfl rfl (by decide) rfl (fun ls hl => ?_)
          refine lv_goto (tgt := 4) hx hb dX2_countInodes_24 (by decide) ?_
          have hn := hn4 _ (Option.some.inj hf).symm
          exact ih y1_4 (y2_4 + (1 : Int32)) _ _ _ hG (lv_sub hl [1, 2, 0] rfl) hn
        · have hf := ifF cq_2 hf
          refine lv_iinc (v := (y1_4 + (1 : Int32))) (lv' := [(1, .int (y1_4 + (1 : Int32))), (0, .ref h0), (2, .int y2_4)]) hx hb dX2_countInodes_18 hl (k := 1) rfl rfl (by decide) rfl (fun ls hl => ?_)
          refine lv_iinc (v := (y2_4 + (1 : Int32))) (lv' := [(2, .int (y2_4 + (1 : Int32))), (1, .int (y1_4 + (1 : Int32))), (0, .ref h0)]) hx hb dX2_countInodes_21 hl (k := 2) rfl rfl (by decide) rfl (fun ls hl => ?_)
          refine lv_goto (tgt := 4) hx hb dX2_countInodes_24 (by decide) ?_
          have hn := hn4 _ (Option.some.inj hf).symm
          exact ih (y1_4 + (1 : Int32)) (y2_4 + (1 : Int32)) _ _ _ hG (lv_sub hl [2, 1, 0] rfl) hn
  unfold f_X2_countInodes at hf
  refine lv_iconst (v := 0) hx hb dX2_countInodes_0 (by decide) ?_
  refine lv_istore_n (lv' := [(1, .int (0 : Int32)), (0, .ref h0)]) hx hb dX2_countInodes_1 rfl hl (by decide) rfl (fun ls hl => ?_)
  refine lv_iconst (v := 0) hx hb dX2_countInodes_2 (by decide) ?_
  refine lv_istore_n (lv' := [(2, .int (0 : Int32)), (1, .int (0 : Int32)), (0, .ref h0)]) hx hb dX2_countInodes_3 rfl hl (by decide) rfl (fun ls hl => ?_)
  obtain ⟨zv_3, hizv_3, hf⟩ := ob hf
  refine L4 zv_3  (fun H locs ls ev_3 hres hG hl => ?_) 300 (0 : Int32) (0 : Int32) _ _ _ hG (lv_sub hl [2, 1, 0] rfl) hizv_3
  have hres := hres.symm
  subst hres
  refine lv_iload_n hx hb dX2_countInodes_27 rfl (lv_at hl 0 rfl) ?_
  have hf := Option.some.inj hf
  exact g_iret hr hlk hK hG B rfl hf dX2_countInodes_28
def b_X2_countMisplacedBlocks_22 (y3_22 : Int32) (y4_22 : Int32) (g : CS) (y1_22 : Int32) (y2_22 : Int32) (y5_22 : Int32) : Option ((Int32 × Int32) ⊕ (Int32 × Int32 × Int32)) := (if y4_22 ≤ y5_22 then some (.inl (y1_22, y2_22)) else (if (f_X2_placeOf y3_22 y5_22 g) = y1_22 then some (.inr ((y1_22 + (1 : Int32)), y2_22, (y5_22 + (1 : Int32)))) else some (.inr ((y1_22 + (1 : Int32)), (y2_22 + (1 : Int32)), (y5_22 + (1 : Int32))))))
def b_X2_countMisplacedBlocks_6  (g : CS) (y1_6 : Int32) (y2_6 : Int32) (y3_6 : Int32) : Option ((Int32) ⊕ (Int32 × Int32 × Int32)) := (if (12 : Int32) ≤ y3_6 then some (.inl y2_6) else ((itl (fun a : Int32 × Int32 × Int32 => b_X2_countMisplacedBlocks_22 y3_6 (f_X2_blocksOf y3_6 g) g a.1 a.2.1 a.2.2) 300 (y1_6, y2_6, (0 : Int32))).bind (fun ev_4 => some (.inr (ev_4.1, ev_4.2, (y3_6 + (1 : Int32)))))))
def f_X2_countMisplacedBlocks  (g : CS) : Option Int32 := ((itl (fun a : Int32 × Int32 × Int32 => b_X2_countMisplacedBlocks_6  g a.1 a.2.1 a.2.2) 300 ((0 : Int32), (0 : Int32), (0 : Int32))).bind (fun ev_5 => some ev_5))
set_option maxHeartbeats 4000000 in
set_option maxRecDepth 100000 in
theorem c_X2_countMisplacedBlocks (l : Launch) (D : va_G) (cI cJ : ClassId) (h0 q1 q2 q3 sz : Nat) (g : CS)  (r : Int32) (hf : f_X2_countMisplacedBlocks  g = some r) : Met l yX2_countMisplacedBlocks wsX2_countMisplacedBlocks { frames := 3, cells := 0, slots := 0, locals := 64 } (gPc D (gT cI cJ) sz (wC h0 q1 q2 q3 cJ g) [.ref h0]) (gQi D (gT cI cJ) (va_A (wC h0 q1 q2 q3 cJ g) sz) r (wC h0 q1 q2 q3 cJ g)) 0 0 (va_A (wC h0 q1 q2 q3 cJ g) sz) := by
  refine gMet (cc := cX2_countMisplacedBlocks) (maxL := 6) (ret := (some .int)) (by decide) rfl ?_ (Nat.le_of_ble_eq_true rfl)
  intro p e0 s m below meth c ls B hr hlk hsz hK hG hl
  have hA : ∀ q : Nat, s.heap.size ≤ q → va_A (wC h0 q1 q2 q3 cJ g) sz q := fun q h => Or.inr (hsz ▸ h)
  have hx := B.1
  have hb := B.2.1
  have hts := B.2.2.2.2
  have hl : lv_has ls 6 [(0, .ref h0)] := hl
  generalize va_A (wC h0 q1 q2 q3 cJ g) sz = A at hA hG ⊢
  have L22 : ∀ (res : (Int32 × Int32)) (y3_22 : Int32) (y4_22 : Int32), (∀ (H1 : Heap) (locs1 : List Loc) (ls1 : Array Slot) (e : Int32 × Int32), res = e → gG D A s.heap (wC h0 q1 q2 q3 cJ g) H1 locs1 → lv_has ls1 6 [(0, .ref h0), (1, .int e.1), (2, .int e.2), (3, .int y3_22)] → W p l e0 { frames := 3, cells := 0, slots := 0, locals := 64 } s m ([.ref h0] : List Value).toArray below meth c H1 locs1 0 0 (MQ below (gQi D (gT cI cJ) A r (wC h0 q1 q2 q3 cJ g)) ([.ref h0] : List Value).toArray s 0 0 A) (F0 m 52 ls1 [])) → ∀ (n : Nat) (y1_22 : Int32) (y2_22 : Int32) (y5_22 : Int32) (H : Heap) (locs : List Loc) (ls : Array Slot), gG D A s.heap (wC h0 q1 q2 q3 cJ g) H locs → lv_has ls 6 [(0, .ref h0), (1, .int y1_22), (2, .int y2_22), (3, .int y3_22), (4, .int y4_22), (5, .int y5_22)] → itl (fun a : Int32 × Int32 × Int32 => b_X2_countMisplacedBlocks_22 y3_22 y4_22 g a.1 a.2.1 a.2.2) n (y1_22, y2_22, y5_22) = some res → W p l e0 { frames := 3, cells := 0, slots := 0, locals := 64 } s m ([.ref h0] : List Value).toArray below meth c H locs 0 0 (MQ below (gQi D (gT cI cJ) A r (wC h0 q1 q2 q3 cJ g)) ([.ref h0] : List Value).toArray s 0 0 A) (F0 m 22 ls []) := by
    intro res y3_22 y4_22 hKe22 n
    induction n with
    | zero => exact fun y1_22 y2_22 y5_22 H locs ls hG hl hf => (itl_0 hf).elim
    | succ n ih =>
      intro y1_22 y2_22 y5_22 H locs ls hG hl hf
      obtain ⟨o, hf, ho22, hn22⟩ := itl_s hf
      have hf : b_X2_countMisplacedBlocks_22 y3_22 y4_22 g y1_22 y2_22 y5_22 = some o := hf
      unfold b_X2_countMisplacedBlocks_22 at hf
      refine lv_iload hx hb dX2_countMisplacedBlocks_22 (lv_at hl 5 rfl) ?_
      refine lv_iload hx hb dX2_countMisplacedBlocks_24 (lv_at hl 4 rfl) ?_
      refine lv_icmp_ge (tgt := 52) hx hb dX2_countMisplacedBlocks_26 (by decide) (fun cq_2 => ?_) (fun cq_2 => ?_)
      · have hf := ifT cq_2 hf
        have hres := ho22 _ (Option.some.inj hf).symm
        exact hKe22 _ _ _ (y1_22, y2_22) hres.symm hG (lv_sub hl [0, 1, 2, 3] rfl)
      · have hf := ifF cq_2 hf
        refine lv_aload_n hx hb dX2_countMisplacedBlocks_29 rfl (lv_at hl 0 rfl) ?_
        refine lv_iload_n hx hb dX2_countMisplacedBlocks_30 rfl (lv_at hl 3 rfl) ?_
        refine lv_iload hx hb dX2_countMisplacedBlocks_31 (lv_at hl 5 rfl) ?_
        refine gc_Vi hA hK hl.1 hG B (c_X2_placeOf l D cI cJ h0 q1 q2 q3 _ g y3_22 y5_22 _ rfl) (cwV 2 hts gX2_countMisplacedBlocks_X2_placeOf rfl rfl rfl (by decide +kernel) ⟨by decide, by decide⟩) 0 rfl rfl rfl rfl rfl (Nat.le_of_ble_eq_true rfl) dX2_countMisplacedBlocks_33 ⟨Nat.zero_le _, Nat.zero_le _⟩ (fun H locs hG => ?_)
        refine lv_iload_n hx hb dX2_countMisplacedBlocks_36 rfl (lv_at hl 1 rfl) ?_
        refine lv_icmp_eq (tgt := 43) hx hb dX2_countMisplacedBlocks_37 (by decide) (fun cq_3 => ?_) (fun cq_3 => ?_)
        · have hf := ifT cq_3 hf
          refine lv_iinc (v := (y1_22 + (1 : Int32))) (lv' := [(1, .int (y1_22 + (1 : Int32))), (0, .ref h0), (2, .int y2_22), (3, .int y3_22), (4, .int y4_22), (5, .int y5_22)]) hx hb dX2_countMisplacedBlocks_43 hl (k := 1) rfl rfl (by decide) rfl (fun ls hl => ?_)
          refine lv_iinc (v := (y5_22 + (1 : Int32))) (lv' := [(5, .int (y5_22 + (1 : Int32))), (1, .int (y1_22 + (1 : Int32))), (0, .ref h0), (2, .int y2_22), (3, .int y3_22), (4, .int y4_22)]) hx hb dX2_countMisplacedBlocks_46 hl (k := 5) rfl rfl (by decide) rfl (fun ls hl => ?_)
          refine lv_goto (tgt := 22) hx hb dX2_countMisplacedBlocks_49 (by decide) ?_
          have hn := hn22 _ (Option.some.inj hf).symm
          exact ih (y1_22 + (1 : Int32)) y2_22 (y5_22 + (1 : Int32)) _ _ _ hG (lv_sub hl [2, 1, 3, 4, 5, 0] rfl) hn
        · have hf := ifF cq_3 hf
          refine lv_iinc (v := (y2_22 + (1 : Int32))) (lv' := [(2, .int (y2_22 + (1 : Int32))), (0, .ref h0), (1, .int y1_22), (3, .int y3_22), (4, .int y4_22), (5, .int y5_22)]) hx hb dX2_countMisplacedBlocks_40 hl (k := 2) rfl rfl (by decide) rfl (fun ls hl => ?_)
          refine lv_iinc (v := (y1_22 + (1 : Int32))) (lv' := [(1, .int (y1_22 + (1 : Int32))), (2, .int (y2_22 + (1 : Int32))), (0, .ref h0), (3, .int y3_22), (4, .int y4_22), (5, .int y5_22)]) hx hb dX2_countMisplacedBlocks_43 hl (k := 2) rfl rfl (by decide) rfl (fun ls hl => ?_)
          refine lv_iinc (v := (y5_22 + (1 : Int32))) (lv' := [(5, .int (y5_22 + (1 : Int32))), (1, .int (y1_22 + (1 : Int32))), (2, .int (y2_22 + (1 : Int32))), (0, .ref h0), (3, .int y3_22), (4, .int y4_22)]) hx hb dX2_countMisplacedBlocks_46 hl (k := 5) rfl rfl (by decide) rfl (fun ls hl => ?_)
          refine lv_goto (tgt := 22) hx hb dX2_countMisplacedBlocks_49 (by decide) ?_
          have hn := hn22 _ (Option.some.inj hf).symm
          exact ih (y1_22 + (1 : Int32)) (y2_22 + (1 : Int32)) (y5_22 + (1 : Int32)) _ _ _ hG (lv_sub hl [3, 1, 2, 4, 5, 0] rfl) hn
  have L6 : ∀ (res : (Int32)) , (∀ (H1 : Heap) (locs1 : List Loc) (ls1 : Array Slot) (e : Int32), res = e → gG D A s.heap (wC h0 q1 q2 q3 cJ g) H1 locs1 → lv_has ls1 6 [(2, .int e)] → W p l e0 { frames := 3, cells := 0, slots := 0, locals := 64 } s m ([.ref h0] : List Value).toArray below meth c H1 locs1 0 0 (MQ below (gQi D (gT cI cJ) A r (wC h0 q1 q2 q3 cJ g)) ([.ref h0] : List Value).toArray s 0 0 A) (F0 m 58 ls1 [])) → ∀ (n : Nat) (y1_6 : Int32) (y2_6 : Int32) (y3_6 : Int32) (H : Heap) (locs : List Loc) (ls : Array Slot), gG D A s.heap (wC h0 q1 q2 q3 cJ g) H locs → lv_has ls 6 [(0, .ref h0), (1, .int y1_6), (2, .int y2_6), (3, .int y3_6)] → itl (fun a : Int32 × Int32 × Int32 => b_X2_countMisplacedBlocks_6  g a.1 a.2.1 a.2.2) n (y1_6, y2_6, y3_6) = some res → W p l e0 { frames := 3, cells := 0, slots := 0, locals := 64 } s m ([.ref h0] : List Value).toArray below meth c H locs 0 0 (MQ below (gQi D (gT cI cJ) A r (wC h0 q1 q2 q3 cJ g)) ([.ref h0] : List Value).toArray s 0 0 A) (F0 m 6 ls []) := by
    intro res  hKe6 n
    induction n with
    | zero => exact fun y1_6 y2_6 y3_6 H locs ls hG hl hf => (itl_0 hf).elim
    | succ n ih =>
      intro y1_6 y2_6 y3_6 H locs ls hG hl hf
      obtain ⟨o, hf, ho6, hn6⟩ := itl_s hf
      have hf : b_X2_countMisplacedBlocks_6  g y1_6 y2_6 y3_6 = some o := hf
      unfold b_X2_countMisplacedBlocks_6 at hf
      refine lv_iload_n hx hb dX2_countMisplacedBlocks_6 rfl (lv_at hl 3 rfl) ?_
      refine lv_bipush (v := 12) hx hb dX2_countMisplacedBlocks_7 (by decide) ?_
      refine lv_icmp_ge (tgt := 58) hx hb dX2_countMisplacedBlocks_9 (by decide) (fun cq_1 => ?_) (fun cq_1 => ?_)
      · have hf := ifT cq_1 hf
        have hres := ho6 _ (Option.some.inj hf).symm
        exact hKe6 _ _ _ y2_6 hres.symm hG (lv_sub hl [2] rfl)
      · have hf := ifF cq_1 hf
        refine lv_aload_n hx hb dX2_countMisplacedBlocks_12 rfl (lv_at hl 0 rfl) ?_
        refine lv_iload_n hx hb dX2_countMisplacedBlocks_13 rfl (lv_at hl 3 rfl) ?_
        refine gc_Vi hA hK hl.1 hG B (c_X2_blocksOf l D cI cJ h0 q1 q2 q3 _ g y3_6 _ rfl) (cwV 1 hts gX2_countMisplacedBlocks_X2_blocksOf rfl rfl rfl (by decide +kernel) ⟨by decide, by decide⟩) 0 rfl rfl rfl rfl rfl (Nat.le_of_ble_eq_true rfl) dX2_countMisplacedBlocks_14 ⟨Nat.zero_le _, Nat.zero_le _⟩ (fun H locs hG => ?_)
        refine lv_istore (lv' := [(4, .int (f_X2_blocksOf y3_6 g)), (0, .ref h0), (1, .int y1_6), (2, .int y2_6), (3, .int y3_6)]) hx hb dX2_countMisplacedBlocks_17 hl (by decide) rfl (fun ls hl => ?_)
        refine lv_iconst (v := 0) hx hb dX2_countMisplacedBlocks_19 (by decide) ?_
        refine lv_istore (lv' := [(5, .int (0 : Int32)), (4, .int (f_X2_blocksOf y3_6 g)), (0, .ref h0), (1, .int y1_6), (2, .int y2_6), (3, .int y3_6)]) hx hb dX2_countMisplacedBlocks_20 hl (by decide) rfl (fun ls hl => ?_)
        obtain ⟨zv_4, hizv_4, hf⟩ := ob hf
        refine L22 zv_4 y3_6 (f_X2_blocksOf y3_6 g) (fun H locs ls ev_4 hres hG hl => ?_) 300 y1_6 y2_6 (0 : Int32) _ _ _ hG (lv_sub hl [2, 3, 4, 5, 1, 0] rfl) hizv_4
        have hres := hres.symm
        subst hres
        refine lv_iinc (v := (y3_6 + (1 : Int32))) (lv' := [(3, .int (y3_6 + (1 : Int32))), (0, .ref h0), (1, .int ev_4.1), (2, .int ev_4.2)]) hx hb dX2_countMisplacedBlocks_52 hl (k := 3) rfl rfl (by decide) rfl (fun ls hl => ?_)
        refine lv_goto (tgt := 6) hx hb dX2_countMisplacedBlocks_55 (by decide) ?_
        have hn := hn6 _ (Option.some.inj hf).symm
        exact ih ev_4.1 ev_4.2 (y3_6 + (1 : Int32)) _ _ _ hG (lv_sub hl [1, 2, 3, 0] rfl) hn
  unfold f_X2_countMisplacedBlocks at hf
  refine lv_iconst (v := 0) hx hb dX2_countMisplacedBlocks_0 (by decide) ?_
  refine lv_istore_n (lv' := [(1, .int (0 : Int32)), (0, .ref h0)]) hx hb dX2_countMisplacedBlocks_1 rfl hl (by decide) rfl (fun ls hl => ?_)
  refine lv_iconst (v := 0) hx hb dX2_countMisplacedBlocks_2 (by decide) ?_
  refine lv_istore_n (lv' := [(2, .int (0 : Int32)), (1, .int (0 : Int32)), (0, .ref h0)]) hx hb dX2_countMisplacedBlocks_3 rfl hl (by decide) rfl (fun ls hl => ?_)
  refine lv_iconst (v := 0) hx hb dX2_countMisplacedBlocks_4 (by decide) ?_
  refine lv_istore_n (lv' := [(3, .int (0 : Int32)), (2, .int (0 : Int32)), (1, .int (0 : Int32)), (0, .ref h0)]) hx hb dX2_countMisplacedBlocks_5 rfl hl (by decide) rfl (fun ls hl => ?_)
  obtain ⟨zv_5, hizv_5, hf⟩ := ob hf
  refine L6 zv_5  (fun H locs ls ev_5 hres hG hl => ?_) 300 (0 : Int32) (0 : Int32) (0 : Int32) _ _ _ hG (lv_sub hl [3, 2, 1, 0] rfl) hizv_5
  have hres := hres.symm
  subst hres
  refine lv_iload_n hx hb dX2_countMisplacedBlocks_58 rfl (lv_at hl 0 rfl) ?_
  have hf := Option.some.inj hf
  exact g_iret hr hlk hK hG B rfl hf dX2_countMisplacedBlocks_59
def b_X2_countEntries_4  (g : CS) (y1_4 : Int32) (y2_4 : Int32) : Option ((Int32) ⊕ (Int32 × Int32)) := (if (12 : Int32) ≤ y2_4 then some (.inl y1_4) else (if (f_X2_kindOf y2_4 g) = (1 : Int32) then ((f_X2_entriesOf y2_4 g).bind (fun zv_3 => some (.inr ((y1_4 + zv_3), (y2_4 + (1 : Int32)))))) else some (.inr (y1_4, (y2_4 + (1 : Int32))))))
def f_X2_countEntries  (g : CS) : Option Int32 := ((itl (fun a : Int32 × Int32 => b_X2_countEntries_4  g a.1 a.2) 300 ((0 : Int32), (0 : Int32))).bind (fun ev_4 => some ev_4))
set_option maxHeartbeats 4000000 in
set_option maxRecDepth 100000 in
theorem c_X2_countEntries (l : Launch) (D : va_G) (cI cJ : ClassId) (h0 q1 q2 q3 sz : Nat) (g : CS)  (r : Int32) (hf : f_X2_countEntries  g = some r) : Met l yX2_countEntries wsX2_countEntries { frames := 4, cells := 0, slots := 0, locals := 87 } (gPc D (gT cI cJ) sz (wC h0 q1 q2 q3 cJ g) [.ref h0]) (gQi D (gT cI cJ) (va_A (wC h0 q1 q2 q3 cJ g) sz) r (wC h0 q1 q2 q3 cJ g)) 0 0 (va_A (wC h0 q1 q2 q3 cJ g) sz) := by
  refine gMet (cc := cX2_countEntries) (maxL := 3) (ret := (some .int)) (by decide) rfl ?_ (Nat.le_of_ble_eq_true rfl)
  intro p e0 s m below meth c ls B hr hlk hsz hK hG hl
  have hA : ∀ q : Nat, s.heap.size ≤ q → va_A (wC h0 q1 q2 q3 cJ g) sz q := fun q h => Or.inr (hsz ▸ h)
  have hx := B.1
  have hb := B.2.1
  have hts := B.2.2.2.2
  have hl : lv_has ls 3 [(0, .ref h0)] := hl
  generalize va_A (wC h0 q1 q2 q3 cJ g) sz = A at hA hG ⊢
  have L4 : ∀ (res : (Int32)) , (∀ (H1 : Heap) (locs1 : List Loc) (ls1 : Array Slot) (e : Int32), res = e → gG D A s.heap (wC h0 q1 q2 q3 cJ g) H1 locs1 → lv_has ls1 3 [(1, .int e)] → W p l e0 { frames := 4, cells := 0, slots := 0, locals := 87 } s m ([.ref h0] : List Value).toArray below meth c H1 locs1 0 0 (MQ below (gQi D (gT cI cJ) A r (wC h0 q1 q2 q3 cJ g)) ([.ref h0] : List Value).toArray s 0 0 A) (F0 m 33 ls1 [])) → ∀ (n : Nat) (y1_4 : Int32) (y2_4 : Int32) (H : Heap) (locs : List Loc) (ls : Array Slot), gG D A s.heap (wC h0 q1 q2 q3 cJ g) H locs → lv_has ls 3 [(0, .ref h0), (1, .int y1_4), (2, .int y2_4)] → itl (fun a : Int32 × Int32 => b_X2_countEntries_4  g a.1 a.2) n (y1_4, y2_4) = some res → W p l e0 { frames := 4, cells := 0, slots := 0, locals := 87 } s m ([.ref h0] : List Value).toArray below meth c H locs 0 0 (MQ below (gQi D (gT cI cJ) A r (wC h0 q1 q2 q3 cJ g)) ([.ref h0] : List Value).toArray s 0 0 A) (F0 m 4 ls []) := by
    intro res  hKe4 n
    induction n with
    | zero => exact fun y1_4 y2_4 H locs ls hG hl hf => (itl_0 hf).elim
    | succ n ih =>
      intro y1_4 y2_4 H locs ls hG hl hf
      obtain ⟨o, hf, ho4, hn4⟩ := itl_s hf
      have hf : b_X2_countEntries_4  g y1_4 y2_4 = some o := hf
      unfold b_X2_countEntries_4 at hf
      refine lv_iload_n hx hb dX2_countEntries_4 rfl (lv_at hl 2 rfl) ?_
      refine lv_bipush (v := 12) hx hb dX2_countEntries_5 (by decide) ?_
      refine lv_icmp_ge (tgt := 33) hx hb dX2_countEntries_7 (by decide) (fun cq_1 => ?_) (fun cq_1 => ?_)
      · have hf := ifT cq_1 hf
        have hres := ho4 _ (Option.some.inj hf).symm
        exact hKe4 _ _ _ y1_4 hres.symm hG (lv_sub hl [1] rfl)
      · have hf := ifF cq_1 hf
        refine lv_aload_n hx hb dX2_countEntries_10 rfl (lv_at hl 0 rfl) ?_
        refine lv_iload_n hx hb dX2_countEntries_11 rfl (lv_at hl 2 rfl) ?_
        refine gc_Vi hA hK hl.1 hG B (c_X2_kindOf l D cI cJ h0 q1 q2 q3 _ g y2_4 _ rfl) (cwV 1 hts gX2_countEntries_X2_kindOf rfl rfl rfl (by decide +kernel) ⟨by decide, by decide⟩) 0 rfl rfl rfl rfl rfl (Nat.le_of_ble_eq_true rfl) dX2_countEntries_12 ⟨Nat.zero_le _, Nat.zero_le _⟩ (fun H locs hG => ?_)
        refine lv_iconst (v := 1) hx hb dX2_countEntries_15 (by decide) ?_
        refine lv_icmp_ne (tgt := 27) hx hb dX2_countEntries_16 (by decide) (fun cq_2 => ?_) (fun cq_2 => ?_)
        · have hf := ifF cq_2 hf
          refine lv_iinc (v := (y2_4 + (1 : Int32))) (lv' := [(2, .int (y2_4 + (1 : Int32))), (0, .ref h0), (1, .int y1_4)]) hx hb dX2_countEntries_27 hl (k := 2) rfl rfl (by decide) rfl (fun ls hl => ?_)
          refine lv_goto (tgt := 4) hx hb dX2_countEntries_30 (by decide) ?_
          have hn := hn4 _ (Option.some.inj hf).symm
          exact ih y1_4 (y2_4 + (1 : Int32)) _ _ _ hG (lv_sub hl [1, 2, 0] rfl) hn
        · have hf := ifT cq_2 hf
          refine lv_iload_n hx hb dX2_countEntries_19 rfl (lv_at hl 1 rfl) ?_
          refine lv_aload_n hx hb dX2_countEntries_20 rfl (lv_at hl 0 rfl) ?_
          refine lv_iload_n hx hb dX2_countEntries_21 rfl (lv_at hl 2 rfl) ?_
          obtain ⟨zv_3, hqzv_3, hf⟩ := ob hf
          refine gc_Vi hA hK hl.1 hG B (c_X2_entriesOf l D cI cJ h0 q1 q2 q3 _ g y2_4 _ hqzv_3) (cwV 1 hts gX2_countEntries_X2_entriesOf rfl rfl rfl (by decide +kernel) ⟨by decide, by decide⟩) 0 rfl rfl rfl rfl rfl (Nat.le_of_ble_eq_true rfl) dX2_countEntries_22 ⟨Nat.zero_le _, Nat.zero_le _⟩ (fun H locs hG => ?_)
          refine lv_iadd hx hb dX2_countEntries_25 ?_
          refine lv_istore_n (lv' := [(1, .int (y1_4 + zv_3)), (0, .ref h0), (2, .int y2_4)]) hx hb dX2_countEntries_26 rfl hl (by decide) rfl (fun ls hl => ?_)
          refine lv_iinc (v := (y2_4 + (1 : Int32))) (lv' := [(2, .int (y2_4 + (1 : Int32))), (1, .int (y1_4 + zv_3)), (0, .ref h0)]) hx hb dX2_countEntries_27 hl (k := 2) rfl rfl (by decide) rfl (fun ls hl => ?_)
          refine lv_goto (tgt := 4) hx hb dX2_countEntries_30 (by decide) ?_
          have hn := hn4 _ (Option.some.inj hf).symm
          exact ih (y1_4 + zv_3) (y2_4 + (1 : Int32)) _ _ _ hG (lv_sub hl [2, 1, 0] rfl) hn
  unfold f_X2_countEntries at hf
  refine lv_iconst (v := 0) hx hb dX2_countEntries_0 (by decide) ?_
  refine lv_istore_n (lv' := [(1, .int (0 : Int32)), (0, .ref h0)]) hx hb dX2_countEntries_1 rfl hl (by decide) rfl (fun ls hl => ?_)
  refine lv_iconst (v := 0) hx hb dX2_countEntries_2 (by decide) ?_
  refine lv_istore_n (lv' := [(2, .int (0 : Int32)), (1, .int (0 : Int32)), (0, .ref h0)]) hx hb dX2_countEntries_3 rfl hl (by decide) rfl (fun ls hl => ?_)
  obtain ⟨zv_4, hizv_4, hf⟩ := ob hf
  refine L4 zv_4  (fun H locs ls ev_4 hres hG hl => ?_) 300 (0 : Int32) (0 : Int32) _ _ _ hG (lv_sub hl [2, 1, 0] rfl) hizv_4
  have hres := hres.symm
  subst hres
  refine lv_iload_n hx hb dX2_countEntries_33 rfl (lv_at hl 0 rfl) ?_
  have hf := Option.some.inj hf
  exact g_iret hr hlk hK hG B rfl hf dX2_countEntries_34
def f_X2_count (x1 : Int32) (g : CS) : Option Int32 := (if x1 = (0 : Int32) then ((f_X2_usedBlocks  g).bind (fun zv_2 => some (f_J13_bitCount_95d88 zv_2))) else (if x1 = (1 : Int32) then ((f_X2_countInodes  g).bind (fun zv_4 => some zv_4)) else (if x1 = (2 : Int32) then some (C_wr g) else (if x1 = (3 : Int32) then some (C_mv g) else (if x1 = (4 : Int32) then ((f_X2_countMisplacedBlocks  g).bind (fun zv_8 => some zv_8)) else (if x1 = (5 : Int32) then ((f_X2_countEntries  g).bind (fun zv_10 => some zv_10)) else some (-1 : Int32)))))))
set_option maxHeartbeats 4000000 in
set_option maxRecDepth 100000 in
theorem c_X2_count (l : Launch) (D : va_G) (cI cJ : ClassId) (h0 q1 q2 q3 sz : Nat) (g : CS) (x1 : Int32) (r : Int32) (hf : f_X2_count x1 g = some r) : Met l yX2_count wsX2_count { frames := 5, cells := 0, slots := 0, locals := 109 } (gPc D (gT cI cJ) sz (wC h0 q1 q2 q3 cJ g) [.ref h0, .int x1]) (gQi D (gT cI cJ) (va_A (wC h0 q1 q2 q3 cJ g) sz) r (wC h0 q1 q2 q3 cJ g)) 0 0 (va_A (wC h0 q1 q2 q3 cJ g) sz) := by
  refine gMet (cc := cX2_count) (maxL := 2) (ret := (some .int)) (by decide) rfl ?_ (Nat.le_of_ble_eq_true rfl)
  intro p e0 s m below meth c ls B hr hlk hsz hK hG hl
  have hA : ∀ q : Nat, s.heap.size ≤ q → va_A (wC h0 q1 q2 q3 cJ g) sz q := fun q h => Or.inr (hsz ▸ h)
  have hx := B.1
  have hb := B.2.1
  have hts := B.2.2.2.2
  have hl : lv_has ls 2 [(0, .ref h0), (1, .int x1)] := hl
  generalize va_A (wC h0 q1 q2 q3 cJ g) sz = A at hA hG ⊢
  have hinX0 : ∀ x ∈ wsX00, x ∈ wsX2_count := by decide +kernel
  have hinX2 : ∀ x ∈ wsX20, x ∈ wsX2_count := by decide +kernel
  have m_12 : Cond.fieldLink RX2 12 "BlockMover" "disk" "LBlockMover$Disk;" ∈ wsX2_count := by decide +kernel
  have m_124 : Cond.fieldLink RX2 124 "BlockMover$Disk" "writes" "I" ∈ wsX2_count := by decide +kernel
  have m_155 : Cond.fieldLink RX2 155 "BlockMover" "movesDone" "I" ∈ wsX2_count := by decide +kernel
  unfold f_X2_count at hf
  refine lv_iload_n hx hb dX2_count_0 rfl (lv_at hl 1 rfl) ?_
  by_cases cq_1 : x1 = (0 : Int32)
  · have hf := ifT cq_1 hf
    refine lv_tableIn (off := 39) (tgt := 40) hx hb dX2_count_1 (by rw [cq_1]; decide) (by rw [cq_1]; decide) (by rw [cq_1]; rfl) (by decide) ?_
    refine lv_aload_n hx hb dX2_count_40 rfl (lv_at hl 0 rfl) ?_
    obtain ⟨zv_2, hqzv_2, hf⟩ := ob hf
    refine gc_Vl hA hK hl.1 hG B (c_X2_usedBlocks l D cI cJ h0 q1 q2 q3 _ g  _ hqzv_2) (cwV 0 hts gX2_count_X2_usedBlocks rfl rfl rfl (by decide +kernel) ⟨by decide, by decide⟩) 0 rfl rfl rfl rfl rfl (Nat.le_of_ble_eq_true rfl) dX2_count_41 ⟨Nat.zero_le _, Nat.zero_le _⟩ (fun H locs hG => ?_)
    refine gc_Si hA hK hl.1 hG B (c_J13_bitCount_95d88 l D (gT cI cJ) _ (wC h0 q1 q2 q3 cJ g) zv_2 _ rfl) (va_cwS 1 hts gX2_count_J13_bitCount_95d88 rfl rfl rfl (by decide +kernel) ⟨by decide, by decide⟩) rfl rfl (Nat.le_of_ble_eq_true rfl) dX2_count_44 ⟨Nat.zero_le _, Nat.zero_le _⟩ (fun H locs hG => ?_)
    have hf := Option.some.inj hf
    exact g_iret hr hlk hK hG B rfl hf dX2_count_47
  have hf := ifF cq_1 hf
  by_cases cq_3 : x1 = (1 : Int32)
  · have hf := ifT cq_3 hf
    refine lv_tableIn (off := 47) (tgt := 48) hx hb dX2_count_1 (by rw [cq_3]; decide) (by rw [cq_3]; decide) (by rw [cq_3]; rfl) (by decide) ?_
    refine lv_aload_n hx hb dX2_count_48 rfl (lv_at hl 0 rfl) ?_
    obtain ⟨zv_4, hqzv_4, hf⟩ := ob hf
    refine gc_Vi hA hK hl.1 hG B (c_X2_countInodes l D cI cJ h0 q1 q2 q3 _ g  _ hqzv_4) (cwV 0 hts gX2_count_X2_countInodes rfl rfl rfl (by decide +kernel) ⟨by decide, by decide⟩) 0 rfl rfl rfl rfl rfl (Nat.le_of_ble_eq_true rfl) dX2_count_49 ⟨Nat.zero_le _, Nat.zero_le _⟩ (fun H locs hG => ?_)
    have hf := Option.some.inj hf
    exact g_iret hr hlk hK hG B rfl hf dX2_count_52
  have hf := ifF cq_3 hf
  by_cases cq_5 : x1 = (2 : Int32)
  · have hf := ifT cq_5 hf
    refine lv_tableIn (off := 52) (tgt := 53) hx hb dX2_count_1 (by rw [cq_5]; decide) (by rw [cq_5]; decide) (by rw [cq_5]; rfl) (by decide) ?_
    refine lv_aload_n hx hb dX2_count_53 rfl (lv_at hl 0 rfl) ?_
    refine g_get hK hG B hinX2 0 rfl rfl 0 (by decide) m_12 rfl dX2_count_54 ?_
    refine g_get hK hG B hinX0 1 rfl rfl 2 (by decide) m_124 rfl dX2_count_57 ?_
    have hf := Option.some.inj hf
    exact g_iret hr hlk hK hG B rfl hf dX2_count_60
  have hf := ifF cq_5 hf
  by_cases cq_6 : x1 = (3 : Int32)
  · have hf := ifT cq_6 hf
    refine lv_tableIn (off := 60) (tgt := 61) hx hb dX2_count_1 (by rw [cq_6]; decide) (by rw [cq_6]; decide) (by rw [cq_6]; rfl) (by decide) ?_
    refine lv_aload_n hx hb dX2_count_61 rfl (lv_at hl 0 rfl) ?_
    refine g_get hK hG B hinX2 0 rfl rfl 3 (by decide) m_155 rfl dX2_count_62 ?_
    have hf := Option.some.inj hf
    exact g_iret hr hlk hK hG B rfl hf dX2_count_65
  have hf := ifF cq_6 hf
  by_cases cq_7 : x1 = (4 : Int32)
  · have hf := ifT cq_7 hf
    refine lv_tableIn (off := 65) (tgt := 66) hx hb dX2_count_1 (by rw [cq_7]; decide) (by rw [cq_7]; decide) (by rw [cq_7]; rfl) (by decide) ?_
    refine lv_aload_n hx hb dX2_count_66 rfl (lv_at hl 0 rfl) ?_
    obtain ⟨zv_8, hqzv_8, hf⟩ := ob hf
    refine gc_Vi hA hK hl.1 hG B (c_X2_countMisplacedBlocks l D cI cJ h0 q1 q2 q3 _ g  _ hqzv_8) (cwV 0 hts gX2_count_X2_countMisplacedBlocks rfl rfl rfl (by decide +kernel) ⟨by decide, by decide⟩) 0 rfl rfl rfl rfl rfl (Nat.le_of_ble_eq_true rfl) dX2_count_67 ⟨Nat.zero_le _, Nat.zero_le _⟩ (fun H locs hG => ?_)
    have hf := Option.some.inj hf
    exact g_iret hr hlk hK hG B rfl hf dX2_count_70
  have hf := ifF cq_7 hf
  by_cases cq_9 : x1 = (5 : Int32)
  · have hf := ifT cq_9 hf
    refine lv_tableIn (off := 70) (tgt := 71) hx hb dX2_count_1 (by rw [cq_9]; decide) (by rw [cq_9]; decide) (by rw [cq_9]; rfl) (by decide) ?_
    refine lv_aload_n hx hb dX2_count_71 rfl (lv_at hl 0 rfl) ?_
    obtain ⟨zv_10, hqzv_10, hf⟩ := ob hf
    refine gc_Vi hA hK hl.1 hG B (c_X2_countEntries l D cI cJ h0 q1 q2 q3 _ g  _ hqzv_10) (cwV 0 hts gX2_count_X2_countEntries rfl rfl rfl (by decide +kernel) ⟨by decide, by decide⟩) 0 rfl rfl rfl rfl rfl (Nat.le_of_ble_eq_true rfl) dX2_count_72 ⟨Nat.zero_le _, Nat.zero_le _⟩ (fun H locs hG => ?_)
    have hf := Option.some.inj hf
    exact g_iret hr hlk hK hG B rfl hf dX2_count_75
  have hf := ifF cq_9 hf
  have ncq_1 := lv_neT cq_1 (a := 0) (by decide)
  have ncq_3 := lv_neT cq_3 (a := 1) (by decide)
  have ncq_5 := lv_neT cq_5 (a := 2) (by decide)
  have ncq_6 := lv_neT cq_6 (a := 3) (by decide)
  have ncq_7 := lv_neT cq_7 (a := 4) (by decide)
  have ncq_9 := lv_neT cq_9 (a := 5) (by decide)
  refine lv_tableOut (tgt := 76) hx hb dX2_count_1 (by omega) (by decide) ?_
  refine lv_iconst (v := -1) hx hb dX2_count_76 (by decide) ?_
  have hf := Option.some.inj hf
  exact g_iret hr hlk hK hG B rfl hf dX2_count_77
def b_X2_entryBehindName_5 (y1_5 : Int32) (y2_5 : Int32) (g : CS) (y3_5 : Int32) (y4_5 : Int32) : Option ((Int32) ⊕ (Int32 × Int32)) := (if (8 : Int32) ≤ y4_5 then some (.inl y3_5) else (if (f_X2_nameOfEntry (f_X2_placeOf y1_5 y4_5 g)) ≤ y2_5 then some (.inr (y3_5, (y4_5 + (1 : Int32)))) else (if y3_5 = (0 : Int32) then some (.inr ((f_X2_placeOf y1_5 y4_5 g), (y4_5 + (1 : Int32)))) else (if (f_X2_nameOfEntry y3_5) ≤ (f_X2_nameOfEntry (f_X2_placeOf y1_5 y4_5 g)) then some (.inr (y3_5, (y4_5 + (1 : Int32)))) else some (.inr ((f_X2_placeOf y1_5 y4_5 g), (y4_5 + (1 : Int32))))))))
def f_X2_entryBehindName (x1 : Int32) (x2 : Int32) (g : CS) : Option Int32 := ((itl (fun a : Int32 × Int32 => b_X2_entryBehindName_5 x1 x2 g a.1 a.2) 300 ((0 : Int32), (0 : Int32))).bind (fun ev_5 => some ev_5))
set_option maxHeartbeats 4000000 in
set_option maxRecDepth 100000 in
theorem c_X2_entryBehindName (l : Launch) (D : va_G) (cI cJ : ClassId) (h0 q1 q2 q3 sz : Nat) (g : CS) (x1 : Int32) (x2 : Int32) (r : Int32) (hf : f_X2_entryBehindName x1 x2 g = some r) : Met l yX2_entryBehindName wsX2_entryBehindName { frames := 3, cells := 0, slots := 0, locals := 64 } (gPc D (gT cI cJ) sz (wC h0 q1 q2 q3 cJ g) [.ref h0, .int x1, .int x2]) (gQi D (gT cI cJ) (va_A (wC h0 q1 q2 q3 cJ g) sz) r (wC h0 q1 q2 q3 cJ g)) 0 0 (va_A (wC h0 q1 q2 q3 cJ g) sz) := by
  refine gMet (cc := cX2_entryBehindName) (maxL := 6) (ret := (some .int)) (by decide) rfl ?_ (Nat.le_of_ble_eq_true rfl)
  intro p e0 s m below meth c ls B hr hlk hsz hK hG hl
  have hA : ∀ q : Nat, s.heap.size ≤ q → va_A (wC h0 q1 q2 q3 cJ g) sz q := fun q h => Or.inr (hsz ▸ h)
  have hx := B.1
  have hb := B.2.1
  have hts := B.2.2.2.2
  have hl : lv_has ls 6 [(0, .ref h0), (1, .int x1), (2, .int x2)] := hl
  generalize va_A (wC h0 q1 q2 q3 cJ g) sz = A at hA hG ⊢
  have L5 : ∀ (res : (Int32)) (y1_5 : Int32) (y2_5 : Int32), (∀ (H1 : Heap) (locs1 : List Loc) (ls1 : Array Slot) (e : Int32), res = e → gG D A s.heap (wC h0 q1 q2 q3 cJ g) H1 locs1 → lv_has ls1 6 [(3, .int e)] → W p l e0 { frames := 3, cells := 0, slots := 0, locals := 64 } s m ([.ref h0, .int x1, .int x2] : List Value).toArray below meth c H1 locs1 0 0 (MQ below (gQi D (gT cI cJ) A r (wC h0 q1 q2 q3 cJ g)) ([.ref h0, .int x1, .int x2] : List Value).toArray s 0 0 A) (F0 m 55 ls1 [])) → ∀ (n : Nat) (y3_5 : Int32) (y4_5 : Int32) (H : Heap) (locs : List Loc) (ls : Array Slot), gG D A s.heap (wC h0 q1 q2 q3 cJ g) H locs → lv_has ls 6 [(0, .ref h0), (1, .int y1_5), (2, .int y2_5), (3, .int y3_5), (4, .int y4_5)] → itl (fun a : Int32 × Int32 => b_X2_entryBehindName_5 y1_5 y2_5 g a.1 a.2) n (y3_5, y4_5) = some res → W p l e0 { frames := 3, cells := 0, slots := 0, locals := 64 } s m ([.ref h0, .int x1, .int x2] : List Value).toArray below meth c H locs 0 0 (MQ below (gQi D (gT cI cJ) A r (wC h0 q1 q2 q3 cJ g)) ([.ref h0, .int x1, .int x2] : List Value).toArray s 0 0 A) (F0 m 5 ls []) := by
    intro res y1_5 y2_5 hKe5 n
    induction n with
    | zero => exact fun y3_5 y4_5 H locs ls hG hl hf => (itl_0 hf).elim
    | succ n ih =>
      intro y3_5 y4_5 H locs ls hG hl hf
      obtain ⟨o, hf, ho5, hn5⟩ := itl_s hf
      have hf : b_X2_entryBehindName_5 y1_5 y2_5 g y3_5 y4_5 = some o := hf
      unfold b_X2_entryBehindName_5 at hf
      refine lv_iload hx hb dX2_entryBehindName_5 (lv_at hl 4 rfl) ?_
      refine lv_bipush (v := 8) hx hb dX2_entryBehindName_7 (by decide) ?_
      refine lv_icmp_ge (tgt := 55) hx hb dX2_entryBehindName_9 (by decide) (fun cq_1 => ?_) (fun cq_1 => ?_)
      · have hf := ifT cq_1 hf
        have hres := ho5 _ (Option.some.inj hf).symm
        exact hKe5 _ _ _ y3_5 hres.symm hG (lv_sub hl [3] rfl)
      · have hf := ifF cq_1 hf
        refine lv_aload_n hx hb dX2_entryBehindName_12 rfl (lv_at hl 0 rfl) ?_
        refine lv_iload_n hx hb dX2_entryBehindName_13 rfl (lv_at hl 1 rfl) ?_
        refine lv_iload hx hb dX2_entryBehindName_14 (lv_at hl 4 rfl) ?_
        refine gc_Vi hA hK hl.1 hG B (c_X2_placeOf l D cI cJ h0 q1 q2 q3 _ g y1_5 y4_5 _ rfl) (cwV 2 hts gX2_entryBehindName_X2_placeOf rfl rfl rfl (by decide +kernel) ⟨by decide, by decide⟩) 0 rfl rfl rfl rfl rfl (Nat.le_of_ble_eq_true rfl) dX2_entryBehindName_16 ⟨Nat.zero_le _, Nat.zero_le _⟩ (fun H locs hG => ?_)
        refine lv_istore (lv' := [(5, .int (f_X2_placeOf y1_5 y4_5 g)), (0, .ref h0), (1, .int y1_5), (2, .int y2_5), (3, .int y3_5), (4, .int y4_5)]) hx hb dX2_entryBehindName_19 hl (by decide) rfl (fun ls hl => ?_)
        refine lv_iload hx hb dX2_entryBehindName_21 (lv_at hl 0 rfl) ?_
        refine gc_Si hA hK hl.1 hG B (c_X2_nameOfEntry l D (gT cI cJ) _ (wC h0 q1 q2 q3 cJ g) (f_X2_placeOf y1_5 y4_5 g) _ rfl) (va_cwS 1 hts gX2_entryBehindName_X2_nameOfEntry rfl rfl rfl (by decide +kernel) ⟨by decide, by decide⟩) rfl rfl (Nat.le_of_ble_eq_true rfl) dX2_entryBehindName_23 ⟨Nat.zero_le _, Nat.zero_le _⟩ (fun H locs hG => ?_)
        refine lv_iload_n hx hb dX2_entryBehindName_26 rfl (lv_at hl 3 rfl) ?_
        refine lv_icmp_le (tgt := 49) hx hb dX2_entryBehindName_27 (by decide) (fun cq_2 => ?_) (fun cq_2 => ?_)
        · have hf := ifT cq_2 hf
          refine lv_iinc (v := (y4_5 + (1 : Int32))) (lv' := [(4, .int (y4_5 + (1 : Int32))), (5, .int (f_X2_placeOf y1_5 y4_5 g)), (0, .ref h0), (1, .int y1_5), (2, .int y2_5), (3, .int y3_5)]) hx hb dX2_entryBehindName_49 hl (k := 5) rfl rfl (by decide) rfl (fun ls hl => ?_)
          refine lv_goto (tgt := 5) hx hb dX2_entryBehindName_52 (by decide) ?_
          have hn := hn5 _ (Option.some.inj hf).symm
          exact ih y3_5 (y4_5 + (1 : Int32)) _ _ _ hG (lv_sub hl [2, 3, 4, 5, 0] rfl) hn
        · have hf := ifF cq_2 hf
          refine lv_iload_n hx hb dX2_entryBehindName_30 rfl (lv_at hl 4 rfl) ?_
          refine lv_if_eq (tgt := 46) hx hb dX2_entryBehindName_31 (by decide) (fun cq_3 => ?_) (fun cq_3 => ?_)
          · have hf := ifT cq_3 hf
            refine lv_iload hx hb dX2_entryBehindName_46 (lv_at hl 0 rfl) ?_
            refine lv_istore_n (lv' := [(3, .int (f_X2_placeOf y1_5 y4_5 g)), (5, .int (f_X2_placeOf y1_5 y4_5 g)), (0, .ref h0), (1, .int y1_5), (2, .int y2_5), (4, .int y4_5)]) hx hb dX2_entryBehindName_48 rfl hl (by decide) rfl (fun ls hl => ?_)
            refine lv_iinc (v := (y4_5 + (1 : Int32))) (lv' := [(4, .int (y4_5 + (1 : Int32))), (3, .int (f_X2_placeOf y1_5 y4_5 g)), (5, .int (f_X2_placeOf y1_5 y4_5 g)), (0, .ref h0), (1, .int y1_5), (2, .int y2_5)]) hx hb dX2_entryBehindName_49 hl (k := 5) rfl rfl (by decide) rfl (fun ls hl => ?_)
            refine lv_goto (tgt := 5) hx hb dX2_entryBehindName_52 (by decide) ?_
            have hn := hn5 _ (Option.some.inj hf).symm
            exact ih (f_X2_placeOf y1_5 y4_5 g) (y4_5 + (1 : Int32)) _ _ _ hG (lv_sub hl [3, 4, 5, 1, 0] rfl) hn
          · have hf := ifF cq_3 hf
            refine lv_iload hx hb dX2_entryBehindName_34 (lv_at hl 0 rfl) ?_
            refine gc_Si hA hK hl.1 hG B (c_X2_nameOfEntry l D (gT cI cJ) _ (wC h0 q1 q2 q3 cJ g) (f_X2_placeOf y1_5 y4_5 g) _ rfl) (va_cwS 1 hts gX2_entryBehindName_X2_nameOfEntry rfl rfl rfl (by decide +kernel) ⟨by decide, by decide⟩) rfl rfl (Nat.le_of_ble_eq_true rfl) dX2_entryBehindName_36 ⟨Nat.zero_le _, Nat.zero_le _⟩ (fun H locs hG => ?_)
            refine lv_iload_n hx hb dX2_entryBehindName_39 rfl (lv_at hl 4 rfl) ?_
            refine gc_Si hA hK hl.1 hG B (c_X2_nameOfEntry l D (gT cI cJ) _ (wC h0 q1 q2 q3 cJ g) y3_5 _ rfl) (va_cwS 1 hts gX2_entryBehindName_X2_nameOfEntry rfl rfl rfl (by decide +kernel) ⟨by decide, by decide⟩) rfl rfl (Nat.le_of_ble_eq_true rfl) dX2_entryBehindName_40 ⟨Nat.zero_le _, Nat.zero_le _⟩ (fun H locs hG => ?_)
            refine lv_icmp_ge (tgt := 49) hx hb dX2_entryBehindName_43 (by decide) (fun cq_4 => ?_) (fun cq_4 => ?_)
            · have hf := ifT cq_4 hf
              refine lv_iinc (v := (y4_5 + (1 : Int32))) (lv' := [(4, .int (y4_5 + (1 : Int32))), (5, .int (f_X2_placeOf y1_5 y4_5 g)), (0, .ref h0), (1, .int y1_5), (2, .int y2_5), (3, .int y3_5)]) hx hb dX2_entryBehindName_49 hl (k := 5) rfl rfl (by decide) rfl (fun ls hl => ?_)
              refine lv_goto (tgt := 5) hx hb dX2_entryBehindName_52 (by decide) ?_
              have hn := hn5 _ (Option.some.inj hf).symm
              exact ih y3_5 (y4_5 + (1 : Int32)) _ _ _ hG (lv_sub hl [2, 3, 4, 5, 0] rfl) hn
            · have hf := ifF cq_4 hf
              refine lv_iload hx hb dX2_entryBehindName_46 (lv_at hl 0 rfl) ?_
              refine lv_istore_n (lv' := [(3, .int (f_X2_placeOf y1_5 y4_5 g)), (5, .int (f_X2_placeOf y1_5 y4_5 g)), (0, .ref h0), (1, .int y1_5), (2, .int y2_5), (4, .int y4_5)]) hx hb dX2_entryBehindName_48 rfl hl (by decide) rfl (fun ls hl => ?_)
              refine lv_iinc (v := (y4_5 + (1 : Int32))) (lv' := [(4, .int (y4_5 + (1 : Int32))), (3, .int (f_X2_placeOf y1_5 y4_5 g)), (5, .int (f_X2_placeOf y1_5 y4_5 g)), (0, .ref h0), (1, .int y1_5), (2, .int y2_5)]) hx hb dX2_entryBehindName_49 hl (k := 5) rfl rfl (by decide) rfl (fun ls hl => ?_)
              refine lv_goto (tgt := 5) hx hb dX2_entryBehindName_52 (by decide) ?_
              have hn := hn5 _ (Option.some.inj hf).symm
              exact ih (f_X2_placeOf y1_5 y4_5 g) (y4_5 + (1 : Int32)) _ _ _ hG (lv_sub hl [3, 4, 5, 1, 0] rfl) hn
  unfold f_X2_entryBehindName at hf
  refine lv_iconst (v := 0) hx hb dX2_entryBehindName_0 (by decide) ?_
  refine lv_istore_n (lv' := [(3, .int (0 : Int32)), (0, .ref h0), (1, .int x1), (2, .int x2)]) hx hb dX2_entryBehindName_1 rfl hl (by decide) rfl (fun ls hl => ?_)
  refine lv_iconst (v := 0) hx hb dX2_entryBehindName_2 (by decide) ?_
  refine lv_istore (lv' := [(4, .int (0 : Int32)), (3, .int (0 : Int32)), (0, .ref h0), (1, .int x1), (2, .int x2)]) hx hb dX2_entryBehindName_3 hl (by decide) rfl (fun ls hl => ?_)
  obtain ⟨zv_5, hizv_5, hf⟩ := ob hf
  refine L5 zv_5 x1 x2 (fun H locs ls ev_5 hres hG hl => ?_) 300 (0 : Int32) (0 : Int32) _ _ _ hG (lv_sub hl [2, 3, 4, 1, 0] rfl) hizv_5
  have hres := hres.symm
  subst hres
  refine lv_iload_n hx hb dX2_entryBehindName_55 rfl (lv_at hl 0 rfl) ?_
  have hf := Option.some.inj hf
  exact g_iret hr hlk hK hG B rfl hf dX2_entryBehindName_56
def b_X2_hashOfFile_39 (y3_39 : Int32) (y4_39 : Int32) (y7_39 : Int32) (g : CS) (y5_39 : Int64) (y8_39 : Int32) : Option ((Int64) ⊕ (Int64 × Int32)) := (if (3 : Int32) ≤ y8_39 then some (.inl y5_39) else some (.inr ((((31 : Int64) * y5_39) + (f_X0_word (f_X2_dataAt (f_X2_placeOf y3_39 y7_39 g) y8_39) g)), (y8_39 + (1 : Int32)))))
def b_X2_hashOfFile_29 (y3_29 : Int32) (y4_29 : Int32) (g : CS) (y5_29 : Int64) (y7_29 : Int32) : Option ((Int64) ⊕ (Int64 × Int32)) := (if y4_29 ≤ y7_29 then some (.inl y5_29) else ((itl (fun a : Int64 × Int32 => b_X2_hashOfFile_39 y3_29 y4_29 y7_29 g a.1 a.2) 300 (y5_29, (0 : Int32))).bind (fun ev_3 => some (.inr (ev_3, (y7_29 + (1 : Int32)))))))
def f_X2_hashOfFile (x1 : Int64) (x3 : Int32) (g : CS) : Option Int64 := ((itl (fun a : Int64 × Int32 => b_X2_hashOfFile_29 x3 (f_X2_sizeOf x3 g) g a.1 a.2) 300 ((((31 : Int64) * (((31 : Int64) * x1) + (2 : Int64))) + (f_X2_sizeOf x3 g).toInt64), (0 : Int32))).bind (fun ev_4 => some ev_4))
set_option maxHeartbeats 4000000 in
set_option maxRecDepth 100000 in
theorem c_X2_hashOfFile (l : Launch) (D : va_G) (cI cJ : ClassId) (h0 q1 q2 q3 sz : Nat) (g : CS) (x1 : Int64) (x3 : Int32) (r : Int64) (hf : f_X2_hashOfFile x1 x3 g = some r) : Met l yX2_hashOfFile wsX2_hashOfFile { frames := 3, cells := 0, slots := 0, locals := 64 } (gPc D (gT cI cJ) sz (wC h0 q1 q2 q3 cJ g) [.ref h0, .long x1, .int x3]) (gQl D (gT cI cJ) (va_A (wC h0 q1 q2 q3 cJ g) sz) r (wC h0 q1 q2 q3 cJ g)) 0 0 (va_A (wC h0 q1 q2 q3 cJ g) sz) := by
  refine gMet (cc := cX2_hashOfFile) (maxL := 9) (ret := (some .long)) (by decide) rfl ?_ (Nat.le_of_ble_eq_true rfl)
  intro p e0 s m below meth c ls B hr hlk hsz hK hG hl
  have hA : ∀ q : Nat, s.heap.size ≤ q → va_A (wC h0 q1 q2 q3 cJ g) sz q := fun q h => Or.inr (hsz ▸ h)
  have hx := B.1
  have hb := B.2.1
  have hts := B.2.2.2.2
  have hl : lv_has ls 9 [(0, .ref h0), (1, .long x1), (3, .int x3)] := hl
  generalize va_A (wC h0 q1 q2 q3 cJ g) sz = A at hA hG ⊢
  have hinX2 : ∀ x ∈ wsX20, x ∈ wsX2_hashOfFile := by decide +kernel
  have m_12 : Cond.fieldLink RX2 12 "BlockMover" "disk" "LBlockMover$Disk;" ∈ wsX2_hashOfFile := by decide +kernel
  have L39 : ∀ (res : (Int64)) (y3_39 : Int32) (y4_39 : Int32) (y7_39 : Int32), (∀ (H1 : Heap) (locs1 : List Loc) (ls1 : Array Slot) (e : Int64), res = e → gG D A s.heap (wC h0 q1 q2 q3 cJ g) H1 locs1 → lv_has ls1 9 [(0, .ref h0), (3, .int y3_39), (4, .int y4_39), (5, .long e), (7, .int y7_39)] → W p l e0 { frames := 3, cells := 0, slots := 0, locals := 64 } s m ([.ref h0, .long x1, .int x3] : List Value).toArray below meth c H1 locs1 0 0 (MQ below (gQl D (gT cI cJ) A r (wC h0 q1 q2 q3 cJ g)) ([.ref h0, .long x1, .int x3] : List Value).toArray s 0 0 A) (F0 m 79 ls1 [])) → ∀ (n : Nat) (y5_39 : Int64) (y8_39 : Int32) (H : Heap) (locs : List Loc) (ls : Array Slot), gG D A s.heap (wC h0 q1 q2 q3 cJ g) H locs → lv_has ls 9 [(0, .ref h0), (3, .int y3_39), (4, .int y4_39), (5, .long y5_39), (7, .int y7_39), (8, .int y8_39)] → itl (fun a : Int64 × Int32 => b_X2_hashOfFile_39 y3_39 y4_39 y7_39 g a.1 a.2) n (y5_39, y8_39) = some res → W p l e0 { frames := 3, cells := 0, slots := 0, locals := 64 } s m ([.ref h0, .long x1, .int x3] : List Value).toArray below meth c H locs 0 0 (MQ below (gQl D (gT cI cJ) A r (wC h0 q1 q2 q3 cJ g)) ([.ref h0, .long x1, .int x3] : List Value).toArray s 0 0 A) (F0 m 39 ls []) := by
    intro res y3_39 y4_39 y7_39 hKe39 n
    induction n with
    | zero => exact fun y5_39 y8_39 H locs ls hG hl hf => (itl_0 hf).elim
    | succ n ih =>
      intro y5_39 y8_39 H locs ls hG hl hf
      obtain ⟨o, hf, ho39, hn39⟩ := itl_s hf
      have hf : b_X2_hashOfFile_39 y3_39 y4_39 y7_39 g y5_39 y8_39 = some o := hf
      unfold b_X2_hashOfFile_39 at hf
      refine lv_iload hx hb dX2_hashOfFile_39 (lv_at hl 5 rfl) ?_
      refine lv_iconst (v := 3) hx hb dX2_hashOfFile_41 (by decide) ?_
      refine lv_icmp_ge (tgt := 79) hx hb dX2_hashOfFile_42 (by decide) (fun cq_2 => ?_) (fun cq_2 => ?_)
      · have hf := ifT cq_2 hf
        have hres := ho39 _ (Option.some.inj hf).symm
        exact hKe39 _ _ _ y5_39 hres.symm hG (lv_sub hl [0, 1, 2, 3, 4] rfl)
      · have hf := ifF cq_2 hf
        refine lv_ldc2 (v := 31) hx hb B.2.2.2.1 (hts (.constantLong RX2 175 (31)) (by decide +kernel)) dX2_hashOfFile_45 ?_
        refine lv_lload hx hb dX2_hashOfFile_48 (lv_at hl 3 rfl) ?_
        refine lv_lmul hx hb dX2_hashOfFile_50 ?_
        refine lv_aload_n hx hb dX2_hashOfFile_51 rfl (lv_at hl 0 rfl) ?_
        refine g_get hK hG B hinX2 0 rfl rfl 0 (by decide) m_12 rfl dX2_hashOfFile_52 ?_
        refine lv_aload_n hx hb dX2_hashOfFile_55 rfl (lv_at hl 0 rfl) ?_
        refine lv_iload_n hx hb dX2_hashOfFile_56 rfl (lv_at hl 1 rfl) ?_
        refine lv_iload hx hb dX2_hashOfFile_57 (lv_at hl 4 rfl) ?_
        refine gc_Vi hA hK hl.1 hG B (c_X2_placeOf l D cI cJ h0 q1 q2 q3 _ g y3_39 y7_39 _ rfl) (cwV 2 hts gX2_hashOfFile_X2_placeOf rfl rfl rfl (by decide +kernel) ⟨by decide, by decide⟩) 0 rfl rfl rfl rfl rfl (Nat.le_of_ble_eq_true rfl) dX2_hashOfFile_59 ⟨Nat.zero_le _, Nat.zero_le _⟩ (fun H locs hG => ?_)
        refine lv_iload hx hb dX2_hashOfFile_62 (lv_at hl 5 rfl) ?_
        refine gc_Si hA hK hl.1 hG B (c_X2_dataAt l D (gT cI cJ) _ (wC h0 q1 q2 q3 cJ g) (f_X2_placeOf y3_39 y7_39 g) y8_39 _ rfl) (va_cwS 2 hts gX2_hashOfFile_X2_dataAt rfl rfl rfl (by decide +kernel) ⟨by decide, by decide⟩) rfl rfl (Nat.le_of_ble_eq_true rfl) dX2_hashOfFile_64 ⟨Nat.zero_le _, Nat.zero_le _⟩ (fun H locs hG => ?_)
        refine gc_Vl hA hK hl.1 hG B (c_X0_word l D cI cJ h0 q1 q2 q3 _ g (f_X2_dataAt (f_X2_placeOf y3_39 y7_39 g) y8_39) _ rfl) (cwV 1 hts gX2_hashOfFile_X0_word rfl rfl rfl (by decide +kernel) ⟨by decide, by decide⟩) 1 rfl rfl rfl rfl rfl (Nat.le_of_ble_eq_true rfl) dX2_hashOfFile_67 ⟨Nat.zero_le _, Nat.zero_le _⟩ (fun H locs hG => ?_)
        refine lv_ladd hx hb dX2_hashOfFile_70 ?_
        refine lv_lstore (lv' := [(5, .long (((31 : Int64) * y5_39) + (f_X0_word (f_X2_dataAt (f_X2_placeOf y3_39 y7_39 g) y8_39) g))), (0, .ref h0), (3, .int y3_39), (4, .int y4_39), (7, .int y7_39), (8, .int y8_39)]) hx hb dX2_hashOfFile_71 hl (by decide) rfl (fun ls hl => ?_)
        refine lv_iinc (v := (y8_39 + (1 : Int32))) (lv' := [(8, .int (y8_39 + (1 : Int32))), (5, .long (((31 : Int64) * y5_39) + (f_X0_word (f_X2_dataAt (f_X2_placeOf y3_39 y7_39 g) y8_39) g))), (0, .ref h0), (3, .int y3_39), (4, .int y4_39), (7, .int y7_39)]) hx hb dX2_hashOfFile_73 hl (k := 5) rfl rfl (by decide) rfl (fun ls hl => ?_)
        refine lv_goto (tgt := 39) hx hb dX2_hashOfFile_76 (by decide) ?_
        have hn := hn39 _ (Option.some.inj hf).symm
        exact ih (((31 : Int64) * y5_39) + (f_X0_word (f_X2_dataAt (f_X2_placeOf y3_39 y7_39 g) y8_39) g)) (y8_39 + (1 : Int32)) _ _ _ hG (lv_sub hl [2, 3, 4, 1, 5, 0] rfl) hn
  have L29 : ∀ (res : (Int64)) (y3_29 : Int32) (y4_29 : Int32), (∀ (H1 : Heap) (locs1 : List Loc) (ls1 : Array Slot) (e : Int64), res = e → gG D A s.heap (wC h0 q1 q2 q3 cJ g) H1 locs1 → lv_has ls1 9 [(5, .long e)] → W p l e0 { frames := 3, cells := 0, slots := 0, locals := 64 } s m ([.ref h0, .long x1, .int x3] : List Value).toArray below meth c H1 locs1 0 0 (MQ below (gQl D (gT cI cJ) A r (wC h0 q1 q2 q3 cJ g)) ([.ref h0, .long x1, .int x3] : List Value).toArray s 0 0 A) (F0 m 85 ls1 [])) → ∀ (n : Nat) (y5_29 : Int64) (y7_29 : Int32) (H : Heap) (locs : List Loc) (ls : Array Slot), gG D A s.heap (wC h0 q1 q2 q3 cJ g) H locs → lv_has ls 9 [(0, .ref h0), (3, .int y3_29), (4, .int y4_29), (5, .long y5_29), (7, .int y7_29)] → itl (fun a : Int64 × Int32 => b_X2_hashOfFile_29 y3_29 y4_29 g a.1 a.2) n (y5_29, y7_29) = some res → W p l e0 { frames := 3, cells := 0, slots := 0, locals := 64 } s m ([.ref h0, .long x1, .int x3] : List Value).toArray below meth c H locs 0 0 (MQ below (gQl D (gT cI cJ) A r (wC h0 q1 q2 q3 cJ g)) ([.ref h0, .long x1, .int x3] : List Value).toArray s 0 0 A) (F0 m 29 ls []) := by
    intro res y3_29 y4_29 hKe29 n
    induction n with
    | zero => exact fun y5_29 y7_29 H locs ls hG hl hf => (itl_0 hf).elim
    | succ n ih =>
      intro y5_29 y7_29 H locs ls hG hl hf
      obtain ⟨o, hf, ho29, hn29⟩ := itl_s hf
      have hf : b_X2_hashOfFile_29 y3_29 y4_29 g y5_29 y7_29 = some o := hf
      unfold b_X2_hashOfFile_29 at hf
      refine lv_iload hx hb dX2_hashOfFile_29 (lv_at hl 4 rfl) ?_
      refine lv_iload hx hb dX2_hashOfFile_31 (lv_at hl 2 rfl) ?_
      refine lv_icmp_ge (tgt := 85) hx hb dX2_hashOfFile_33 (by decide) (fun cq_1 => ?_) (fun cq_1 => ?_)
      · have hf := ifT cq_1 hf
        have hres := ho29 _ (Option.some.inj hf).symm
        exact hKe29 _ _ _ y5_29 hres.symm hG (lv_sub hl [3] rfl)
      · have hf := ifF cq_1 hf
        refine lv_iconst (v := 0) hx hb dX2_hashOfFile_36 (by decide) ?_
        refine lv_istore (lv' := [(8, .int (0 : Int32)), (0, .ref h0), (3, .int y3_29), (4, .int y4_29), (5, .long y5_29), (7, .int y7_29)]) hx hb dX2_hashOfFile_37 hl (by decide) rfl (fun ls hl => ?_)
        obtain ⟨zv_3, hizv_3, hf⟩ := ob hf
        refine L39 zv_3 y3_29 y4_29 y7_29 (fun H locs ls ev_3 hres hG hl => ?_) 300 y5_29 (0 : Int32) _ _ _ hG (lv_sub hl [1, 2, 3, 4, 5, 0] rfl) hizv_3
        have hres := hres.symm
        subst hres
        refine lv_iinc (v := (y7_29 + (1 : Int32))) (lv' := [(7, .int (y7_29 + (1 : Int32))), (0, .ref h0), (3, .int y3_29), (4, .int y4_29), (5, .long ev_3)]) hx hb dX2_hashOfFile_79 hl (k := 4) rfl rfl (by decide) rfl (fun ls hl => ?_)
        refine lv_goto (tgt := 29) hx hb dX2_hashOfFile_82 (by decide) ?_
        have hn := hn29 _ (Option.some.inj hf).symm
        exact ih ev_3 (y7_29 + (1 : Int32)) _ _ _ hG (lv_sub hl [1, 2, 3, 4, 0] rfl) hn
  unfold f_X2_hashOfFile at hf
  refine lv_aload_n hx hb dX2_hashOfFile_0 rfl (lv_at hl 0 rfl) ?_
  refine lv_iload_n hx hb dX2_hashOfFile_1 rfl (lv_at hl 2 rfl) ?_
  refine gc_Vi hA hK hl.1 hG B (c_X2_sizeOf l D cI cJ h0 q1 q2 q3 _ g x3 _ rfl) (cwV 1 hts gX2_hashOfFile_X2_sizeOf rfl rfl rfl (by decide +kernel) ⟨by decide, by decide⟩) 0 rfl rfl rfl rfl rfl (Nat.le_of_ble_eq_true rfl) dX2_hashOfFile_2 ⟨Nat.zero_le _, Nat.zero_le _⟩ (fun H locs hG => ?_)
  refine lv_istore (lv' := [(4, .int (f_X2_sizeOf x3 g)), (0, .ref h0), (1, .long x1), (3, .int x3)]) hx hb dX2_hashOfFile_5 hl (by decide) rfl (fun ls hl => ?_)
  refine lv_ldc2 (v := 31) hx hb B.2.2.2.1 (hts (.constantLong RX2 175 (31)) (by decide +kernel)) dX2_hashOfFile_7 ?_
  refine lv_ldc2 (v := 31) hx hb B.2.2.2.1 (hts (.constantLong RX2 175 (31)) (by decide +kernel)) dX2_hashOfFile_10 ?_
  refine lv_lload_n hx hb dX2_hashOfFile_13 rfl (lv_at hl 2 rfl) ?_
  refine lv_lmul hx hb dX2_hashOfFile_14 ?_
  refine lv_ldc2 (v := 2) hx hb B.2.2.2.1 (hts (.constantLong RX2 210 (2)) (by decide +kernel)) dX2_hashOfFile_15 ?_
  refine lv_ladd hx hb dX2_hashOfFile_18 ?_
  refine lv_lmul hx hb dX2_hashOfFile_19 ?_
  refine lv_iload hx hb dX2_hashOfFile_20 (lv_at hl 0 rfl) ?_
  refine lv_i2l hx hb dX2_hashOfFile_22 rfl ?_
  refine lv_ladd hx hb dX2_hashOfFile_23 ?_
  refine lv_lstore (lv' := [(5, .long (((31 : Int64) * (((31 : Int64) * x1) + (2 : Int64))) + (f_X2_sizeOf x3 g).toInt64)), (4, .int (f_X2_sizeOf x3 g)), (0, .ref h0), (1, .long x1), (3, .int x3)]) hx hb dX2_hashOfFile_24 hl (by decide) rfl (fun ls hl => ?_)
  refine lv_iconst (v := 0) hx hb dX2_hashOfFile_26 (by decide) ?_
  refine lv_istore (lv' := [(7, .int (0 : Int32)), (5, .long (((31 : Int64) * (((31 : Int64) * x1) + (2 : Int64))) + (f_X2_sizeOf x3 g).toInt64)), (4, .int (f_X2_sizeOf x3 g)), (0, .ref h0), (1, .long x1), (3, .int x3)]) hx hb dX2_hashOfFile_27 hl (by decide) rfl (fun ls hl => ?_)
  obtain ⟨zv_4, hizv_4, hf⟩ := ob hf
  refine L29 zv_4 x3 (f_X2_sizeOf x3 g) (fun H locs ls ev_4 hres hG hl => ?_) 300 (((31 : Int64) * (((31 : Int64) * x1) + (2 : Int64))) + (f_X2_sizeOf x3 g).toInt64) (0 : Int32) _ _ _ hG (lv_sub hl [3, 5, 2, 1, 0] rfl) hizv_4
  have hres := hres.symm
  subst hres
  refine lv_lload hx hb dX2_hashOfFile_85 (lv_at hl 0 rfl) ?_
  have hf := Option.some.inj hf
  exact g_lret hr hlk hK hG B hf dX2_hashOfFile_87
def b_X2_digest_6  (g : CS) (y1_6 : Int64) (y3_6 : Int32) : Option ((Int64) ⊕ (Int64 × Int32)) := (if (244 : Int32) ≤ y3_6 then some (.inl y1_6) else some (.inr ((((31 : Int64) * y1_6) + (f_X0_word y3_6 g)), (y3_6 + (1 : Int32)))))
def f_X2_digest  (g : CS) : Option Int64 := ((itl (fun a : Int64 × Int32 => b_X2_digest_6  g a.1 a.2) 300 ((3 : Int64), (0 : Int32))).bind (fun ev_2 => some (((31 : Int64) * ev_2) + (f_X2_isDown  g).toInt64)))
set_option maxHeartbeats 4000000 in
set_option maxRecDepth 100000 in
theorem c_X2_digest (l : Launch) (D : va_G) (cI cJ : ClassId) (h0 q1 q2 q3 sz : Nat) (g : CS)  (r : Int64) (hf : f_X2_digest  g = some r) : Met l yX2_digest wsX2_digest { frames := 1, cells := 0, slots := 0, locals := 21 } (gPc D (gT cI cJ) sz (wC h0 q1 q2 q3 cJ g) [.ref h0]) (gQl D (gT cI cJ) (va_A (wC h0 q1 q2 q3 cJ g) sz) r (wC h0 q1 q2 q3 cJ g)) 0 0 (va_A (wC h0 q1 q2 q3 cJ g) sz) := by
  refine gMet (cc := cX2_digest) (maxL := 4) (ret := (some .long)) (by decide) rfl ?_ (Nat.le_of_ble_eq_true rfl)
  intro p e0 s m below meth c ls B hr hlk hsz hK hG hl
  have hA : ∀ q : Nat, s.heap.size ≤ q → va_A (wC h0 q1 q2 q3 cJ g) sz q := fun q h => Or.inr (hsz ▸ h)
  have hx := B.1
  have hb := B.2.1
  have hts := B.2.2.2.2
  have hl : lv_has ls 4 [(0, .ref h0)] := hl
  generalize va_A (wC h0 q1 q2 q3 cJ g) sz = A at hA hG ⊢
  have hinX2 : ∀ x ∈ wsX20, x ∈ wsX2_digest := by decide +kernel
  have m_12 : Cond.fieldLink RX2 12 "BlockMover" "disk" "LBlockMover$Disk;" ∈ wsX2_digest := by decide +kernel
  have L6 : ∀ (res : (Int64)) , (∀ (H1 : Heap) (locs1 : List Loc) (ls1 : Array Slot) (e : Int64), res = e → gG D A s.heap (wC h0 q1 q2 q3 cJ g) H1 locs1 → lv_has ls1 4 [(0, .ref h0), (1, .long e)] → W p l e0 { frames := 1, cells := 0, slots := 0, locals := 21 } s m ([.ref h0] : List Value).toArray below meth c H1 locs1 0 0 (MQ below (gQl D (gT cI cJ) A r (wC h0 q1 q2 q3 cJ g)) ([.ref h0] : List Value).toArray s 0 0 A) (F0 m 34 ls1 [])) → ∀ (n : Nat) (y1_6 : Int64) (y3_6 : Int32) (H : Heap) (locs : List Loc) (ls : Array Slot), gG D A s.heap (wC h0 q1 q2 q3 cJ g) H locs → lv_has ls 4 [(0, .ref h0), (1, .long y1_6), (3, .int y3_6)] → itl (fun a : Int64 × Int32 => b_X2_digest_6  g a.1 a.2) n (y1_6, y3_6) = some res → W p l e0 { frames := 1, cells := 0, slots := 0, locals := 21 } s m ([.ref h0] : List Value).toArray below meth c H locs 0 0 (MQ below (gQl D (gT cI cJ) A r (wC h0 q1 q2 q3 cJ g)) ([.ref h0] : List Value).toArray s 0 0 A) (F0 m 6 ls []) := by
    intro res  hKe6 n
    induction n with
    | zero => exact fun y1_6 y3_6 H locs ls hG hl hf => (itl_0 hf).elim
    | succ n ih =>
      intro y1_6 y3_6 H locs ls hG hl hf
      obtain ⟨o, hf, ho6, hn6⟩ := itl_s hf
      have hf : b_X2_digest_6  g y1_6 y3_6 = some o := hf
      unfold b_X2_digest_6 at hf
      refine lv_iload_n hx hb dX2_digest_6 rfl (lv_at hl 2 rfl) ?_
      refine lv_sipush (v := 244) hx hb dX2_digest_7 (by decide) ?_
      refine lv_icmp_ge (tgt := 34) hx hb dX2_digest_10 (by decide) (fun cq_1 => ?_) (fun cq_1 => ?_)
      · have hf := ifT cq_1 hf
        have hres := ho6 _ (Option.some.inj hf).symm
        exact hKe6 _ _ _ y1_6 hres.symm hG (lv_sub hl [0, 1] rfl)
      · have hf := ifF cq_1 hf
        refine lv_ldc2 (v := 31) hx hb B.2.2.2.1 (hts (.constantLong RX2 175 (31)) (by decide +kernel)) dX2_digest_13 ?_
        refine lv_lload_n hx hb dX2_digest_16 rfl (lv_at hl 1 rfl) ?_
        refine lv_lmul hx hb dX2_digest_17 ?_
        refine lv_aload_n hx hb dX2_digest_18 rfl (lv_at hl 0 rfl) ?_
        refine g_get hK hG B hinX2 0 rfl rfl 0 (by decide) m_12 rfl dX2_digest_19 ?_
        refine lv_iload_n hx hb dX2_digest_22 rfl (lv_at hl 2 rfl) ?_
        refine gc_Vl hA hK hl.1 hG B (c_X0_word l D cI cJ h0 q1 q2 q3 _ g y3_6 _ rfl) (cwV 1 hts gX2_digest_X0_word rfl rfl rfl (by decide +kernel) ⟨by decide, by decide⟩) 1 rfl rfl rfl rfl rfl (Nat.le_of_ble_eq_true rfl) dX2_digest_23 ⟨Nat.zero_le _, Nat.zero_le _⟩ (fun H locs hG => ?_)
        refine lv_ladd hx hb dX2_digest_26 ?_
        refine lv_lstore_n (lv' := [(1, .long (((31 : Int64) * y1_6) + (f_X0_word y3_6 g))), (0, .ref h0), (3, .int y3_6)]) hx hb dX2_digest_27 rfl hl (by decide) rfl (fun ls hl => ?_)
        refine lv_iinc (v := (y3_6 + (1 : Int32))) (lv' := [(3, .int (y3_6 + (1 : Int32))), (1, .long (((31 : Int64) * y1_6) + (f_X0_word y3_6 g))), (0, .ref h0)]) hx hb dX2_digest_28 hl (k := 2) rfl rfl (by decide) rfl (fun ls hl => ?_)
        refine lv_goto (tgt := 6) hx hb dX2_digest_31 (by decide) ?_
        have hn := hn6 _ (Option.some.inj hf).symm
        exact ih (((31 : Int64) * y1_6) + (f_X0_word y3_6 g)) (y3_6 + (1 : Int32)) _ _ _ hG (lv_sub hl [2, 1, 0] rfl) hn
  unfold f_X2_digest at hf
  refine lv_ldc2 (v := 3) hx hb B.2.2.2.1 (hts (.constantLong RX2 173 (3)) (by decide +kernel)) dX2_digest_0 ?_
  refine lv_lstore_n (lv' := [(1, .long (3 : Int64)), (0, .ref h0)]) hx hb dX2_digest_3 rfl hl (by decide) rfl (fun ls hl => ?_)
  refine lv_iconst (v := 0) hx hb dX2_digest_4 (by decide) ?_
  refine lv_istore_n (lv' := [(3, .int (0 : Int32)), (1, .long (3 : Int64)), (0, .ref h0)]) hx hb dX2_digest_5 rfl hl (by decide) rfl (fun ls hl => ?_)
  obtain ⟨zv_2, hizv_2, hf⟩ := ob hf
  refine L6 zv_2  (fun H locs ls ev_2 hres hG hl => ?_) 300 (3 : Int64) (0 : Int32) _ _ _ hG (lv_sub hl [2, 1, 0] rfl) hizv_2
  have hres := hres.symm
  subst hres
  refine lv_ldc2 (v := 31) hx hb B.2.2.2.1 (hts (.constantLong RX2 175 (31)) (by decide +kernel)) dX2_digest_34 ?_
  refine lv_lload_n hx hb dX2_digest_37 rfl (lv_at hl 1 rfl) ?_
  refine lv_lmul hx hb dX2_digest_38 ?_
  refine lv_aload_n hx hb dX2_digest_39 rfl (lv_at hl 0 rfl) ?_
  refine gc_Vi hA hK hl.1 hG B (c_X2_isDown l D cI cJ h0 q1 q2 q3 _ g  _ rfl) (cwV 0 hts gX2_digest_X2_isDown rfl rfl rfl (by decide +kernel) ⟨by decide, by decide⟩) 0 rfl rfl rfl rfl rfl (Nat.le_of_ble_eq_true rfl) dX2_digest_40 ⟨Nat.zero_le _, Nat.zero_le _⟩ (fun H locs hG => ?_)
  refine lv_i2l hx hb dX2_digest_43 rfl ?_
  refine lv_ladd hx hb dX2_digest_44 ?_
  have hf := Option.some.inj hf
  exact g_lret hr hlk hK hG B hf dX2_digest_45
