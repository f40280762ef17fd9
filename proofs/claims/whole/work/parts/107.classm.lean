def b_X2_hashOfFile_39 (y3_39 : Int32) (y4_39 : Int32) (y7_39 : Int32) (g : CS) (y5_39 : Int64) (y8_39 : Int32) : Option ((Int64) ⊕ (Int64 × Int32)) := (if (3 : Int32) ≤ y8_39 then some (.inl y5_39) else some (.inr ((((31 : Int64) * y5_39) + (f_X0_word (f_X2_dataAt (f_X2_placeOf y3_39 y7_39 g) y8_39) g)), (y8_39 + (1 : Int32)))))
def b_X2_hashOfFile_29 (y3_29 : Int32) (y4_29 : Int32) (g : CS) (y5_29 : Int64) (y7_29 : Int32) : Option ((Int64) ⊕ (Int64 × Int32)) := (if y4_29 ≤ y7_29 then some (.inl y5_29) else ((itl (fun a : Int64 × Int32 => b_X2_hashOfFile_39 y3_29 y4_29 y7_29 g a.1 a.2) 300 (y5_29, (0 : Int32))).bind (fun ev_3 => some (.inr (ev_3, (y7_29 + (1 : Int32)))))))
def f_X2_hashOfFile (x1 : Int64) (x3 : Int32) (g : CS) : Option Int64 := ((itl (fun a : Int64 × Int32 => b_X2_hashOfFile_29 x3 (f_X2_sizeOf x3 g) g a.1 a.2) 300 ((((31 : Int64) * (((31 : Int64) * x1) + (2 : Int64))) + (f_X2_sizeOf x3 g).toInt64), (0 : Int32))).bind (fun ev_4 => some ev_4))
set_option maxHeartbeats 4000000 in
set_option maxRecDepth 100000 in
theorem c_X2_hashOfFile (l : Launch) (D : va_G) (cI cJ : ClassId) (h0 q1 q2 q3 sz : Nat) (g : CS) (x1 : Int64) (x3 : Int32) (r : Int64) (hf : f_X2_hashOfFile x1 x3 g = some r) : Met l yX2_hashOfFile wsX2_hashOfFile { frames := 3, cells := 0, slots := 0, locals := 64 } (gPc D (gT cI cJ) sz (wC h0 q1 q2 q3 cJ g) [.ref h0, .long x1, .int x3]) (gQl D (gT cI cJ) (va_A (wC h0 q1 q2 q3 cJ g) sz) r (wC h0 q1 q2 q3 cJ g)) 0 0 (va_A (wC h0 q1 q2 q3 cJ g) sz) := by
  refine gMet (cc := cX2_hashOfFile) (maxL := 9) (ret := (some .long)) (by decide) rfl ?_ (Nat.le_of_ble_eq_true rfl)
  intro p e0 s m below meth c ls B hr hlk hsz hK hG hl
  have hA : ∀ q : Nat, s.heap.size ≤ q → va_A (wC h0 q1 q2 q3 cJ g) sz q := fun q h => Or.inr (hsz ▸ h)
  have hx := B.1
  have hb := B.2.1
  have hts := B.2.2.2.2
  have hl : lv_has ls 9 [(0, .ref h0), (1, .long x1), (3, .int x3)] := hl
  generalize va_A (wC h0 q1 q2 q3 cJ g) sz = A at hA hG ⊢
  have hinX2 : ∀ x ∈ wsX20, x ∈ wsX2_hashOfFile := by decide +kernel
  have m_12 : Cond.fieldLink RX2 12 "BlockMover" "disk" "LBlockMover$Disk;" ∈ wsX2_hashOfFile := by decide +kernel
  have L39 : ∀ (res : (Int64)) (y3_39 : Int32) (y4_39 : Int32) (y7_39 : Int32), (∀ (H1 : Heap) (locs1 : List Loc) (ls1 : Array Slot) (e : Int64), res = e → gG D A s.heap (wC h0 q1 q2 q3 cJ g) H1 locs1 → lv_has ls1 9 [(0, .ref h0), (3, .int y3_39), (4, .int y4_39), (5, .long e), (7, .int y7_39)] → W p l e0 { frames := 3, cells := 0, slots := 0, locals := 64 } s m ([.ref h0, .long x1, .int x3] : List Value).toArray below meth c H1 locs1 0 0 (MQ below (gQl D (gT cI cJ) A r (wC h0 q1 q2 q3 cJ g)) ([.ref h0, .long x1, .int x3] : List Value).toArray s 0 0 A) (F0 m 79 ls1 [])) → ∀ (n : Nat) (y5_39 : Int64) (y8_39 : Int32) (H : Heap) (locs : List Loc) (ls : Array Slot), gG D A s.heap (wC h0 q1 q2 q3 cJ g) H locs → lv_has ls 9 [(0, .ref h0), (3, .int y3_39), (4, .int y4_39), (5, .long y5_39), (7, .int y7_39), (8, .int y8_39)] → itl (fun a : Int64 × Int32 => b_X2_hashOfFile_39 y3_39 y4_39 y7_39 g a.1 a.2) n (y5_39, y8_39) = some res → W p l e0 { frames := 3, cells := 0, slots := 0, locals := 64 } s m ([.ref h0, .long x1, .int x3] : List Value).toArray below meth c H locs 0 0 (MQ below (gQl D (gT cI cJ) A r (wC h0 q1 q2 q3 cJ g)) ([.ref h0, .long x1, .int x3] : List Value).toArray s 0 0 A) (F0 m 39 ls []) := by
    intro res y3_39 y4_39 y7_39 hKe39 n
    induction n with
    | zero => exact fun y5_39 y8_39 H locs ls hG hl hf => (itl_0 hf).elim
    | succ n ih =>
      intro y5_39 y8_39 H locs ls hG hl hf
      obtain ⟨o, hf, ho39, hn39⟩ := itl_s hf
      have hf : b_X2_hashOfFile_39 y3_39 y4_39 y7_39 g y5_39 y8_39 = some o := hf
      unfold b_X2_hashOfFile_39 at hf
      refine lv_iload hx hb dX2_hashOfFile_39 (lv_at hl 5 rfl) ?_
      refine lv_iconst (v := 3) hx hb dX2_hashOfFile_41 (by decide) ?_
      refine lv_icmp_ge (tgt := 79) hx hb dX2_hashOfFile_42 (by decide) (fun cq_2 => ?_) (fun cq_2 => ?_)
      · have hf := ifT cq_2 hf
        have hres := ho39 _ (Option.some.inj hf).symm
        exact hKe39 _ _ _ y5_39 hres.symm hG (lv_sub hl [0, 1, 2, 3, 4] rfl)
      · have hf := ifF cq_2 hf
        refine lv_ldc2 (v := 31) hx hb B.2.2.2.1 (hts (.constantLong RX2 181 (31)) (by decide +kernel)) dX2_hashOfFile_45 ?_
        refine lv_lload hx hb dX2_hashOfFile_48 (lv_at hl 3 rfl) ?_
        refine lv_lmul hx hb dX2_hashOfFile_50 ?_
        refine lv_aload_n hx hb dX2_hashOfFile_51 rfl (lv_at hl 0 rfl) ?_
        refine g_get hK hG B hinX2 0 rfl rfl 0 (by decide) m_12 rfl dX2_hashOfFile_52 ?_
        refine lv_aload_n hx hb dX2_hashOfFile_55 rfl (lv_at hl 0 rfl) ?_
        refine lv_iload_n hx hb dX2_hashOfFile_56 rfl (lv_at hl 1 rfl) ?_
        refine lv_iload hx hb dX2_hashOfFile_57 (lv_at hl 4 rfl) ?_
        refine gc_Vi hA hK hl.1 hG B (c_X2_placeOf l D cI cJ h0 q1 q2 q3 _ g y3_39 y7_39 _ rfl) (cwV 2 hts gX2_hashOfFile_X2_placeOf rfl rfl rfl (by decide +kernel) ⟨by decide, by decide⟩) 0 rfl rfl rfl rfl rfl (Nat.le_of_ble_eq_true rfl) dX2_hashOfFile_59 ⟨Nat.zero_le _, Nat.zero_le _⟩ (fun H locs hG => ?_)
        refine lv_iload hx hb dX2_hashOfFile_62 (lv_at hl 5 rfl) ?_
        refine gc_Si hA hK hl.1 hG B (c_X2_dataAt l D (gT cI cJ) _ (wC h0 q1 q2 q3 cJ g) (f_X2_placeOf y3_39 y7_39 g) y8_39 _ rfl) (va_cwS 2 hts gX2_hashOfFile_X2_dataAt rfl rfl rfl (by decide +kernel) ⟨by decide, by decide⟩) rfl rfl (Nat.le_of_ble_eq_true rfl) dX2_hashOfFile_64 ⟨Nat.zero_le _, Nat.zero_le _⟩ (fun H locs hG => ?_)
        refine gc_Vl hA hK hl.1 hG B (c_X0_word l D cI cJ h0 q1 q2 q3 _ g (f_X2_dataAt (f_X2_placeOf y3_39 y7_39 g) y8_39) _ rfl) (cwV 1 hts gX2_hashOfFile_X0_word rfl rfl rfl (by decide +kernel) ⟨by decide, by decide⟩) 1 rfl rfl rfl rfl rfl (Nat.le_of_ble_eq_true rfl) dX2_hashOfFile_67 ⟨Nat.zero_le _, Nat.zero_le _⟩ (fun H locs hG => ?_)
        refine lv_ladd hx hb dX2_hashOfFile_70 ?_
        refine lv_lstore (lv' := [(5, .long (((31 : Int64) * y5_39) + (f_X0_word (f_X2_dataAt (f_X2_placeOf y3_39 y7_39 g) y8_39) g))), (0, .ref h0), (3, .int y3_39), (4, .int y4_39), (7, .int y7_39), (8, .int y8_39)]) hx hb dX2_hashOfFile_71 hl (by decide) rfl (fun ls hl => ?_)
        refine lv_iinc (v := (y8_39 + (1 : Int32))) (lv' := [(8, .int (y8_39 + (1 : Int32))), (5, .long (((31 : Int64) * y5_39) + (f_X0_word (f_X2_dataAt (f_X2_placeOf y3_39 y7_39 g) y8_39) g))), (0, .ref h0), (3, .int y3_39), (4, .int y4_39), (7, .int y7_39)]) hx hb dX2_hashOfFile_73 hl (k := 5) rfl rfl (by decide) rfl (fun ls hl => ?_)
        refine lv_goto (tgt := 39) hx hb dX2_hashOfFile_76 (by decide) ?_
        have hn := hn39 _ (Option.some.inj hf).symm
        exact ih (((31 : Int64) * y5_39) + (f_X0_word (f_X2_dataAt (f_X2_placeOf y3_39 y7_39 g) y8_39) g)) (y8_39 + (1 : Int32)) _ _ _ hG (lv_sub hl [2, 3, 4, 1, 5, 0] rfl) hn
  have L29 : ∀ (res : (Int64)) (y3_29 : Int32) (y4_29 : Int32), (∀ (H1 : Heap) (locs1 : List Loc) (ls1 : Array Slot) (e : Int64), res = e → gG D A s.heap (wC h0 q1 q2 q3 cJ g) H1 locs1 → lv_has ls1 9 [(5, .long e)] → W p l e0 { frames := 3, cells := 0, slots := 0, locals := 64 } s m ([.ref h0, .long x1, .int x3] : List Value).toArray below meth c H1 locs1 0 0 (MQ below (gQl D (gT cI cJ) A r (wC h0 q1 q2 q3 cJ g)) ([.ref h0, .long x1, .int x3] : List Value).toArray s 0 0 A) (F0 m 85 ls1 [])) → ∀ (n : Nat) (y5_29 : Int64) (y7_29 : Int32) (H : Heap) (locs : List Loc) (ls : Array Slot), gG D A s.heap (wC h0 q1 q2 q3 cJ g) H locs → lv_has ls 9 [(0, .ref h0), (3, .int y3_29), (4, .int y4_29), (5, .long y5_29), (7, .int y7_29)] → itl (fun a : Int64 × Int32 => b_X2_hashOfFile_29 y3_29 y4_29 g a.1 a.2) n (y5_29, y7_29) = some res → W p l e0 { frames := 3, cells := 0, slots := 0, locals := 64 } s m ([.ref h0, .long x1, .int x3] : List Value).toArray below meth c H locs 0 0 (MQ below (gQl D (gT cI cJ) A r (wC h0 q1 q2 q3 cJ g)) ([.ref h0, .long x1, .int x3] : List Value).toArray s 0 0 A) (F0 m 29 ls []) := by
    intro res y3_29 y4_29 hKe29 n
    induction n with
    | zero => exact fun y5_29 y7_29 H locs ls hG hl hf => (itl_0 hf).elim
    | succ n ih =>
      intro y5_29 y7_29 H locs ls hG hl hf
      obtain ⟨o, hf, ho29, hn29⟩ := itl_s hf
      have hf : b_X2_hashOfFile_29 y3_29 y4_29 g y5_29 y7_29 = some o := hf
      unfold b_X2_hashOfFile_29 at hf
      refine lv_iload hx hb dX2_hashOfFile_29 (lv_at hl 4 rfl) ?_
      refine lv_iload hx hb dX2_hashOfFile_31 (lv_at hl 2 rfl) ?_
      refine lv_icmp_ge (tgt := 85) hx hb dX2_hashOfFile_33 (by decide) (fun cq_1 => ?_) (fun cq_1 => ?_)
      · have hf := ifT cq_1 hf
        have hres := ho29 _ (Option.some.inj hf).symm
        exact hKe29 _ _ _ y5_29 hres.symm hG (lv_sub hl [3] rfl)
      · have hf := ifF cq_1 hf
        refine lv_iconst (v := 0) hx hb dX2_hashOfFile_36 (by decide) ?_
        refine lv_istore (lv' := [(8, .int (0 : Int32)), (0, .ref h0), (3, .int y3_29), (4, .int y4_29), (5, .long y5_29), (7, .int y7_29)]) hx hb dX2_hashOfFile_37 hl (by decide) rfl (fun ls hl => ?_)
        obtain ⟨zv_3, hizv_3, hf⟩ := ob hf
        refine L39 zv_3 y3_29 y4_29 y7_29 (fun H locs ls ev_3 hres hG hl => ?_) 300 y5_29 (0 : Int32) _ _ _ hG (lv_sub hl [1, 2, 3, 4, 5, 0] rfl) hizv_3
        have hres := hres.symm
        subst hres
        refine lv_iinc (v := (y7_29 + (1 : Int32))) (lv' := [(7, .int (y7_29 + (1 : Int32))), (0, .ref h0), (3, .int y3_29), (4, .int y4_29), (5, .long ev_3)]) hx hb dX2_hashOfFile_79 hl (k := 4) rfl rfl (by decide) rfl (fun ls hl => ?_)
        refine lv_goto (tgt := 29) hx hb dX2_hashOfFile_82 (by decide) ?_
        have hn := hn29 _ (Option.some.inj hf).symm
        exact ih ev_3 (y7_29 + (1 : Int32)) _ _ _ hG (lv_sub hl [1, 2, 3, 4, 0] rfl) hn
  unfold f_X2_hashOfFile at hf
  refine lv_aload_n hx hb dX2_hashOfFile_0 rfl (lv_at hl 0 rfl) ?_
  refine lv_iload_n hx hb dX2_hashOfFile_1 rfl (lv_at hl 2 rfl) ?_
  refine gc_Vi hA hK hl.1 hG B (c_X2_sizeOf l D cI cJ h0 q1 q2 q3 _ g x3 _ rfl) (cwV 1 hts gX2_hashOfFile_X2_sizeOf rfl rfl rfl (by decide +kernel) ⟨by decide, by decide⟩) 0 rfl rfl rfl rfl rfl (Nat.le_of_ble_eq_true rfl) dX2_hashOfFile_2 ⟨Nat.zero_le _, Nat.zero_le _⟩ (fun H locs hG => ?_)
  refine lv_istore (lv' := [(4, .int (f_X2_sizeOf x3 g)), (0, .ref h0), (1, .long x1), (3, .int x3)]) hx hb dX2_hashOfFile_5 hl (by decide) rfl (fun ls hl => ?_)
  refine lv_ldc2 (v := 31) hx hb B.2.2.2.1 (hts (.constantLong RX2 181 (31)) (by decide +kernel)) dX2_hashOfFile_7 ?_
  refine lv_ldc2 (v := 31) hx hb B.2.2.2.1 (hts (.constantLong RX2 181 (31)) (by decide +kernel)) dX2_hashOfFile_10 ?_
  refine lv_lload_n hx hb dX2_hashOfFile_13 rfl (lv_at hl 2 rfl) ?_
  refine lv_lmul hx hb dX2_hashOfFile_14 ?_
  refine lv_ldc2 (v := 2) hx hb B.2.2.2.1 (hts (.constantLong RX2 212 (2)) (by decide +kernel)) dX2_hashOfFile_15 ?_
  refine lv_ladd hx hb dX2_hashOfFile_18 ?_
  refine lv_lmul hx hb dX2_hashOfFile_19 ?_
  refine lv_iload hx hb dX2_hashOfFile_20 (lv_at hl 0 rfl) ?_
  refine lv_i2l hx hb dX2_hashOfFile_22 rfl ?_
  refine lv_ladd hx hb dX2_hashOfFile_23 ?_
  refine lv_lstore (lv' := [(5, .long (((31 : Int64) * (((31 : Int64) * x1) + (2 : Int64))) + (f_X2_sizeOf x3 g).toInt64)), (4, .int (f_X2_sizeOf x3 g)), (0, .ref h0), (1, .long x1), (3, .int x3)]) hx hb dX2_hashOfFile_24 hl (by decide) rfl (fun ls hl => ?_)
  refine lv_iconst (v := 0) hx hb dX2_hashOfFile_26 (by decide) ?_
  refine lv_istore (lv' := [(7, .int (0 : Int32)), (5, .long (((31 : Int64) * (((31 : Int64) * x1) + (2 : Int64))) + (f_X2_sizeOf x3 g).toInt64)), (4, .int (f_X2_sizeOf x3 g)), (0, .ref h0), (1, .long x1), (3, .int x3)]) hx hb dX2_hashOfFile_27 hl (by decide) rfl (fun ls hl => ?_)
  obtain ⟨zv_4, hizv_4, hf⟩ := ob hf
  refine L29 zv_4 x3 (f_X2_sizeOf x3 g) (fun H locs ls ev_4 hres hG hl => ?_) 300 (((31 : Int64) * (((31 : Int64) * x1) + (2 : Int64))) + (f_X2_sizeOf x3 g).toInt64) (0 : Int32) _ _ _ hG (lv_sub hl [3, 5, 2, 1, 0] rfl) hizv_4
  have hres := hres.symm
  subst hres
  refine lv_lload hx hb dX2_hashOfFile_85 (lv_at hl 0 rfl) ?_
  have hf := Option.some.inj hf
  exact g_lret hr hlk hK hG B hf dX2_hashOfFile_87
