def b_X2_hashOfDirectory_20 (hI : Int64 → Int32 → Int32 → CS → Option (Int64 × CS)) (y3_20 : Int32) (y4_20 : Int32) (y5_20 : Int64) (y7_20 : Int32) (y8_20 : Int32) (g20 : CS) : Option ((Int64 × CS) ⊕ (Int64 × Int32 × Int32 × CS)) := (if (8 : Int32) ≤ y8_20 then some (.inl (y5_20, g20)) else (if y7_20 = (0 : Int32) then some (.inl (y5_20, g20)) else (if (f_X2_meet (f_X2_inodeOfEntry y7_20) g20).1 = (0 : Int32) then ((f_X2_entryBehindName y3_20 (f_X2_nameOfEntry y7_20) (f_X2_meet (f_X2_inodeOfEntry y7_20) g20).2).bind (fun zv_5 => some (.inr (y5_20, zv_5, (y8_20 + (1 : Int32)), (f_X2_meet (f_X2_inodeOfEntry y7_20) g20).2)))) else ((hI (((31 : Int64) * y5_20) + (f_X2_nameOfEntry y7_20).toInt64) (f_X2_inodeOfEntry y7_20) (y4_20 + (1 : Int32)) (f_X2_meet (f_X2_inodeOfEntry y7_20) g20).2).bind (fun zv_6 => ((f_X2_entryBehindName y3_20 (f_X2_nameOfEntry y7_20) zv_6.2).bind (fun zv_7 => some (.inr (zv_6.1, zv_7, (y8_20 + (1 : Int32)), zv_6.2)))))))))
def f_X2_hashOfDirectory (hI : Int64 → Int32 → Int32 → CS → Option (Int64 × CS)) (x1 : Int64) (x3 : Int32) (x4 : Int32) (g : CS) : Option (Int64 × CS) := ((f_X2_entryBehindName x3 (0 : Int32) g).bind (fun zv_1 => ((itl (fun a : Int64 × Int32 × Int32 × CS => b_X2_hashOfDirectory_20 hI x3 x4 a.1 a.2.1 a.2.2.1 a.2.2.2) 300 ((((31 : Int64) * x1) + (1 : Int64)), zv_1, (0 : Int32), g)).bind (fun ev_8 => some ((((31 : Int64) * ev_8.1) + (9 : Int64)), ev_8.2)))))
set_option maxHeartbeats 4000000 in
set_option maxRecDepth 100000 in
theorem c_X2_hashOfDirectory (l : Launch) (D : va_G) (cI cJ : ClassId) (h0 q1 q2 q3 sz : Nat) (g : CS) (hI : Int64 → Int32 → Int32 → CS → Option (Int64 × CS)) (F L : Nat) (hrec : ∀ (sz : Nat) (g : CS) (x1 : Int64) (x3 x4 : Int32) (r : Int64) (g1 : CS), hI x1 x3 x4 g = some (r, g1) → Met l yX2_hashOfInode wsX2_hashOfInode { frames := F, cells := 0, slots := 0, locals := L } (gPc D (gT cI cJ) sz (wC h0 q1 q2 q3 cJ g) [.ref h0, .long x1, .int x3, .int x4]) (gQl D (gT cI cJ) (va_A (wC h0 q1 q2 q3 cJ g) sz) r (wC h0 q1 q2 q3 cJ g1)) 0 0 (va_A (wC h0 q1 q2 q3 cJ g) sz)) (x1 : Int64) (x3 : Int32) (x4 : Int32) (r : Int64) (g1 : CS) (hf : f_X2_hashOfDirectory hI x1 x3 x4 g = some (r, g1)) : Met l yX2_hashOfDirectory wsX2_hashOfDirectory { frames := F + 10, cells := 0, slots := 0, locals := L + 300 } (gPc D (gT cI cJ) sz (wC h0 q1 q2 q3 cJ g) [.ref h0, .long x1, .int x3, .int x4]) (gQl D (gT cI cJ) (va_A (wC h0 q1 q2 q3 cJ g) sz) r (wC h0 q1 q2 q3 cJ g1)) 0 0 (va_A (wC h0 q1 q2 q3 cJ g) sz) := by
  refine gMet (cc := cX2_hashOfDirectory) (maxL := 9) (ret := (some .long)) (by decide) rfl ?_ (Nat.le_of_ble_eq_true rfl)
  intro p e0 s m below meth c ls B hr hlk hsz hK hG hl
  have hA : ∀ q : Nat, s.heap.size ≤ q → va_A (wC h0 q1 q2 q3 cJ g) sz q := fun q h => Or.inr (hsz ▸ h)
  have hx := B.1
  have hb := B.2.1
  have hts := B.2.2.2.2
  have hl : lv_has ls 9 [(0, .ref h0), (1, .long x1), (3, .int x3), (4, .int x4)] := hl
  generalize va_A (wC h0 q1 q2 q3 cJ g) sz = A at hA hG ⊢
  have L20 : ∀ (res : (Int64 × CS)) (y3_20 : Int32) (y4_20 : Int32), (∀ (H1 : Heap) (locs1 : List Loc) (ls1 : Array Slot) (e : Int64 × CS), res = e → gG D A s.heap (wC h0 q1 q2 q3 cJ e.2) H1 locs1 → lv_has ls1 9 [(5, .long e.1)] → W p l e0 { frames := F + 10, cells := 0, slots := 0, locals := L + 300 } s m ([.ref h0, .long x1, .int x3, .int x4] : List Value).toArray below meth c H1 locs1 0 0 (MQ below (gQl D (gT cI cJ) A r (wC h0 q1 q2 q3 cJ g1)) ([.ref h0, .long x1, .int x3, .int x4] : List Value).toArray s 0 0 A) (F0 m 90 ls1 [])) → ∀ (n : Nat) (y5_20 : Int64) (y7_20 : Int32) (y8_20 : Int32) (g20 : CS) (H : Heap) (locs : List Loc) (ls : Array Slot), gG D A s.heap (wC h0 q1 q2 q3 cJ g20) H locs → lv_has ls 9 [(0, .ref h0), (3, .int y3_20), (4, .int y4_20), (5, .long y5_20), (7, .int y7_20), (8, .int y8_20)] → itl (fun a : Int64 × Int32 × Int32 × CS => b_X2_hashOfDirectory_20 hI y3_20 y4_20 a.1 a.2.1 a.2.2.1 a.2.2.2) n (y5_20, y7_20, y8_20, g20) = some res → W p l e0 { frames := F + 10, cells := 0, slots := 0, locals := L + 300 } s m ([.ref h0, .long x1, .int x3, .int x4] : List Value).toArray below meth c H locs 0 0 (MQ below (gQl D (gT cI cJ) A r (wC h0 q1 q2 q3 cJ g1)) ([.ref h0, .long x1, .int x3, .int x4] : List Value).toArray s 0 0 A) (F0 m 20 ls []) := by
    intro res y3_20 y4_20 hKe20 n
    induction n with
    | zero => exact fun y5_20 y7_20 y8_20 g20 H locs ls hG hl hf => (itl_0 hf).elim
    | succ n ih =>
      intro y5_20 y7_20 y8_20 g20 H locs ls hG hl hf
      obtain ⟨o, hf, ho20, hn20⟩ := itl_s hf
      have hf : b_X2_hashOfDirectory_20 hI y3_20 y4_20 y5_20 y7_20 y8_20 g20 = some o := hf
      unfold b_X2_hashOfDirectory_20 at hf
      refine lv_iload hx hb dX2_hashOfDirectory_20 (lv_at hl 5 rfl) ?_
      refine lv_bipush (v := 8) hx hb dX2_hashOfDirectory_22 (by decide) ?_
      refine lv_icmp_ge (tgt := 90) hx hb dX2_hashOfDirectory_24 (by decide) (fun cq_2 => ?_) (fun cq_2 => ?_)
      · have hf := ifT cq_2 hf
        have hres := ho20 _ (Option.some.inj hf).symm
        exact hKe20 _ _ _ (y5_20, g20) hres.symm hG (lv_sub hl [3] rfl)
      · have hf := ifF cq_2 hf
        refine lv_iload hx hb dX2_hashOfDirectory_27 (lv_at hl 4 rfl) ?_
        refine lv_if_eq (tgt := 90) hx hb dX2_hashOfDirectory_29 (by decide) (fun cq_3 => ?_) (fun cq_3 => ?_)
        · have hf := ifT cq_3 hf
          have hres := ho20 _ (Option.some.inj hf).symm
          exact hKe20 _ _ _ (y5_20, g20) hres.symm hG (lv_sub hl [3] rfl)
        · have hf := ifF cq_3 hf
          refine lv_aload_n hx hb dX2_hashOfDirectory_32 rfl (lv_at hl 0 rfl) ?_
          refine lv_iload hx hb dX2_hashOfDirectory_33 (lv_at hl 4 rfl) ?_
          refine gc_Si hA hK hl.1 hG B (c_X2_inodeOfEntry l D (gT cI cJ) _ (wC h0 q1 q2 q3 cJ g20) y7_20 _ rfl) (va_cwS 1 hts gX2_hashOfDirectory_X2_inodeOfEntry rfl rfl rfl (by decide +kernel) ⟨by show 0 + 1 ≤ F + 10; omega, by show 8 + (1 + 11) + 0 ≤ L + 300; omega⟩) rfl rfl (Nat.le_of_ble_eq_true rfl) dX2_hashOfDirectory_35 ⟨Nat.zero_le _, Nat.zero_le _⟩ (fun H locs hG => ?_)
          refine gc_Vi hA hK hl.1 hG B (c_X2_meet l D cI cJ h0 q1 q2 q3 _ g20 (f_X2_inodeOfEntry y7_20) _ _ rfl) (cwV 1 hts gX2_hashOfDirectory_X2_meet rfl rfl rfl (by decide +kernel) ⟨by show 2 + 1 ≤ F + 10; omega, by show 8 + (2 + 11) + 42 ≤ L + 300; omega⟩) 0 rfl rfl rfl rfl rfl (Nat.le_of_ble_eq_true rfl) dX2_hashOfDirectory_38 ⟨Nat.zero_le _, Nat.zero_le _⟩ (fun H locs hG => ?_)
          refine lv_if_eq (tgt := 72) hx hb dX2_hashOfDirectory_41 (by decide) (fun cq_4 => ?_) (fun cq_4 => ?_)
          · have hf := ifT cq_4 hf
            refine lv_aload_n hx hb dX2_hashOfDirectory_72 rfl (lv_at hl 0 rfl) ?_
            refine lv_iload_n hx hb dX2_hashOfDirectory_73 rfl (lv_at hl 1 rfl) ?_
            refine lv_iload hx hb dX2_hashOfDirectory_74 (lv_at hl 4 rfl) ?_
            refine gc_Si hA hK hl.1 hG B (c_X2_nameOfEntry l D (gT cI cJ) _ (wC h0 q1 q2 q3 cJ (f_X2_meet (f_X2_inodeOfEntry y7_20) g20).2) y7_20 _ rfl) (va_cwS 1 hts gX2_hashOfDirectory_X2_nameOfEntry rfl rfl rfl (by decide +kernel) ⟨by show 0 + 1 ≤ F + 10; omega, by show 8 + (1 + 11) + 0 ≤ L + 300; omega⟩) rfl rfl (Nat.le_of_ble_eq_true rfl) dX2_hashOfDirectory_76 ⟨Nat.zero_le _, Nat.zero_le _⟩ (fun H locs hG => ?_)
            obtain ⟨zv_5, hqzv_5, hf⟩ := ob hf
            refine gc_Vi hA hK hl.1 hG B (c_X2_entryBehindName l D cI cJ h0 q1 q2 q3 _ (f_X2_meet (f_X2_inodeOfEntry y7_20) g20).2 y3_20 (f_X2_nameOfEntry y7_20) _ hqzv_5) (cwV 2 hts gX2_hashOfDirectory_X2_entryBehindName rfl rfl rfl (by decide +kernel) ⟨by show 3 + 1 ≤ F + 10; omega, by show 8 + (6 + 11) + 64 ≤ L + 300; omega⟩) 0 rfl rfl rfl rfl rfl (Nat.le_of_ble_eq_true rfl) dX2_hashOfDirectory_79 ⟨Nat.zero_le _, Nat.zero_le _⟩ (fun H locs hG => ?_)
            refine lv_istore (lv' := [(7, .int zv_5), (0, .ref h0), (3, .int y3_20), (4, .int y4_20), (5, .long y5_20), (8, .int y8_20)]) hx hb dX2_hashOfDirectory_82 hl (by decide) rfl (fun ls hl => ?_)
            refine lv_iinc (v := (y8_20 + (1 : Int32))) (lv' := [(8, .int (y8_20 + (1 : Int32))), (7, .int zv_5), (0, .ref h0), (3, .int y3_20), (4, .int y4_20), (5, .long y5_20)]) hx hb dX2_hashOfDirectory_84 hl (k := 5) rfl rfl (by decide) rfl (fun ls hl => ?_)
            refine lv_goto (tgt := 20) hx hb dX2_hashOfDirectory_87 (by decide) ?_
            have hn := hn20 _ (Option.some.inj hf).symm
            exact ih y5_20 zv_5 (y8_20 + (1 : Int32)) (f_X2_meet (f_X2_inodeOfEntry y7_20) g20).2 _ _ _ hG (lv_sub hl [2, 3, 4, 5, 1, 0] rfl) hn
          · have hf := ifF cq_4 hf
            refine lv_aload_n hx hb dX2_hashOfDirectory_44 rfl (lv_at hl 0 rfl) ?_
            refine lv_ldc2 (v := 31) hx hb B.2.2.2.1 (hts (.constantLong RX2 175 (31)) (by decide +kernel)) dX2_hashOfDirectory_45 ?_
            refine lv_lload hx hb dX2_hashOfDirectory_48 (lv_at hl 3 rfl) ?_
            refine lv_lmul hx hb dX2_hashOfDirectory_50 ?_
            refine lv_iload hx hb dX2_hashOfDirectory_51 (lv_at hl 4 rfl) ?_
            refine gc_Si hA hK hl.1 hG B (c_X2_nameOfEntry l D (gT cI cJ) _ (wC h0 q1 q2 q3 cJ (f_X2_meet (f_X2_inodeOfEntry y7_20) g20).2) y7_20 _ rfl) (va_cwS 1 hts gX2_hashOfDirectory_X2_nameOfEntry rfl rfl rfl (by decide +kernel) ⟨by show 0 + 1 ≤ F + 10; omega, by show 8 + (1 + 11) + 0 ≤ L + 300; omega⟩) rfl rfl (Nat.le_of_ble_eq_true rfl) dX2_hashOfDirectory_53 ⟨Nat.zero_le _, Nat.zero_le _⟩ (fun H locs hG => ?_)
            refine lv_i2l hx hb dX2_hashOfDirectory_56 rfl ?_
            refine lv_ladd hx hb dX2_hashOfDirectory_57 ?_
            refine lv_iload hx hb dX2_hashOfDirectory_58 (lv_at hl 4 rfl) ?_
            refine gc_Si hA hK hl.1 hG B (c_X2_inodeOfEntry l D (gT cI cJ) _ (wC h0 q1 q2 q3 cJ (f_X2_meet (f_X2_inodeOfEntry y7_20) g20).2) y7_20 _ rfl) (va_cwS 1 hts gX2_hashOfDirectory_X2_inodeOfEntry rfl rfl rfl (by decide +kernel) ⟨by show 0 + 1 ≤ F + 10; omega, by show 8 + (1 + 11) + 0 ≤ L + 300; omega⟩) rfl rfl (Nat.le_of_ble_eq_true rfl) dX2_hashOfDirectory_60 ⟨Nat.zero_le _, Nat.zero_le _⟩ (fun H locs hG => ?_)
            refine lv_iload hx hb dX2_hashOfDirectory_63 (lv_at hl 2 rfl) ?_
            refine lv_iconst (v := 1) hx hb dX2_hashOfDirectory_65 (by decide) ?_
            refine lv_iadd hx hb dX2_hashOfDirectory_66 ?_
            obtain ⟨zv_6, hqzv_6, hf⟩ := ob hf
            refine gc_Vl hA hK hl.1 hG B (hrec _ (f_X2_meet (f_X2_inodeOfEntry y7_20) g20).2 (((31 : Int64) * y5_20) + (f_X2_nameOfEntry y7_20).toInt64) (f_X2_inodeOfEntry y7_20) (y4_20 + (1 : Int32)) _ _ hqzv_6) (cwV 3 hts gX2_hashOfDirectory_X2_hashOfInode rfl rfl rfl (by decide +kernel) ⟨by show F + 1 ≤ F + 10; omega, by show 8 + (5 + 11) + L ≤ L + 300; omega⟩) 0 rfl rfl rfl rfl rfl (Nat.le_of_ble_eq_true rfl) dX2_hashOfDirectory_67 ⟨Nat.zero_le _, Nat.zero_le _⟩ (fun H locs hG => ?_)
            refine lv_lstore (lv' := [(5, .long zv_6.1), (0, .ref h0), (3, .int y3_20), (4, .int y4_20), (7, .int y7_20), (8, .int y8_20)]) hx hb dX2_hashOfDirectory_70 hl (by decide) rfl (fun ls hl => ?_)
            refine lv_aload_n hx hb dX2_hashOfDirectory_72 rfl (lv_at hl 1 rfl) ?_
            refine lv_iload_n hx hb dX2_hashOfDirectory_73 rfl (lv_at hl 2 rfl) ?_
            refine lv_iload hx hb dX2_hashOfDirectory_74 (lv_at hl 4 rfl) ?_
            refine gc_Si hA hK hl.1 hG B (c_X2_nameOfEntry l D (gT cI cJ) _ (wC h0 q1 q2 q3 cJ zv_6.2) y7_20 _ rfl) (va_cwS 1 hts gX2_hashOfDirectory_X2_nameOfEntry rfl rfl rfl (by decide +kernel) ⟨by show 0 + 1 ≤ F + 10; omega, by show 8 + (1 + 11) + 0 ≤ L + 300; omega⟩) rfl rfl (Nat.le_of_ble_eq_true rfl) dX2_hashOfDirectory_76 ⟨Nat.zero_le _, Nat.zero_le _⟩ (fun H locs hG => ?_)
            obtain ⟨zv_7, hqzv_7, hf⟩ := ob hf
            refine gc_Vi hA hK hl.1 hG B (c_X2_entryBehindName l D cI cJ h0 q1 q2 q3 _ zv_6.2 y3_20 (f_X2_nameOfEntry y7_20) _ hqzv_7) (cwV 2 hts gX2_hashOfDirectory_X2_entryBehindName rfl rfl rfl (by decide +kernel) ⟨by show 3 + 1 ≤ F + 10; omega, by show 8 + (6 + 11) + 64 ≤ L + 300; omega⟩) 0 rfl rfl rfl rfl rfl (Nat.le_of_ble_eq_true rfl) dX2_hashOfDirectory_79 ⟨Nat.zero_le _, Nat.zero_le _⟩ (fun H locs hG => ?_)
            refine lv_istore (lv' := [(7, .int zv_7), (5, .long zv_6.1), (0, .ref h0), (3, .int y3_20), (4, .int y4_20), (8, .int y8_20)]) hx hb dX2_hashOfDirectory_82 hl (by decide) rfl (fun ls hl => ?_)
            refine lv_iinc (v := (y8_20 + (1 : Int32))) (lv' := [(8, .int (y8_20 + (1 : Int32))), (7, .int zv_7), (5, .long zv_6.1), (0, .ref h0), (3, .int y3_20), (4, .int y4_20)]) hx hb dX2_hashOfDirectory_84 hl (k := 5) rfl rfl (by decide) rfl (fun ls hl => ?_)
            refine lv_goto (tgt := 20) hx hb dX2_hashOfDirectory_87 (by decide) ?_
            have hn := hn20 _ (Option.some.inj hf).symm
            exact ih zv_6.1 zv_7 (y8_20 + (1 : Int32)) zv_6.2 _ _ _ hG (lv_sub hl [3, 4, 5, 2, 1, 0] rfl) hn
  unfold f_X2_hashOfDirectory at hf
  refine lv_ldc2 (v := 31) hx hb B.2.2.2.1 (hts (.constantLong RX2 175 (31)) (by decide +kernel)) dX2_hashOfDirectory_0 ?_
  refine lv_lload_n hx hb dX2_hashOfDirectory_3 rfl (lv_at hl 1 rfl) ?_
  refine lv_lmul hx hb dX2_hashOfDirectory_4 ?_
  refine lv_lconst (v := 1) hx hb dX2_hashOfDirectory_5 (by decide) ?_
  refine lv_ladd hx hb dX2_hashOfDirectory_6 ?_
  refine lv_lstore (lv' := [(5, .long (((31 : Int64) * x1) + (1 : Int64))), (0, .ref h0), (1, .long x1), (3, .int x3), (4, .int x4)]) hx hb dX2_hashOfDirectory_7 hl (by decide) rfl (fun ls hl => ?_)
  refine lv_aload_n hx hb dX2_hashOfDirectory_9 rfl (lv_at hl 1 rfl) ?_
  refine lv_iload_n hx hb dX2_hashOfDirectory_10 rfl (lv_at hl 3 rfl) ?_
  refine lv_iconst (v := 0) hx hb dX2_hashOfDirectory_11 (by decide) ?_
  obtain ⟨zv_1, hqzv_1, hf⟩ := ob hf
  refine gc_Vi hA hK hl.1 hG B (c_X2_entryBehindName l D cI cJ h0 q1 q2 q3 _ g x3 (0 : Int32) _ hqzv_1) (cwV 2 hts gX2_hashOfDirectory_X2_entryBehindName rfl rfl rfl (by decide +kernel) ⟨by show 3 + 1 ≤ F + 10; omega, by show 8 + (6 + 11) + 64 ≤ L + 300; omega⟩) 0 rfl rfl rfl rfl rfl (Nat.le_of_ble_eq_true rfl) dX2_hashOfDirectory_12 ⟨Nat.zero_le _, Nat.zero_le _⟩ (fun H locs hG => ?_)
  refine lv_istore (lv' := [(7, .int zv_1), (5, .long (((31 : Int64) * x1) + (1 : Int64))), (0, .ref h0), (1, .long x1), (3, .int x3), (4, .int x4)]) hx hb dX2_hashOfDirectory_15 hl (by decide) rfl (fun ls hl => ?_)
  refine lv_iconst (v := 0) hx hb dX2_hashOfDirectory_17 (by decide) ?_
  refine lv_istore (lv' := [(8, .int (0 : Int32)), (7, .int zv_1), (5, .long (((31 : Int64) * x1) + (1 : Int64))), (0, .ref h0), (1, .long x1), (3, .int x3), (4, .int x4)]) hx hb dX2_hashOfDirectory_18 hl (by decide) rfl (fun ls hl => ?_)
  obtain ⟨zv_8, hizv_8, hf⟩ := ob hf
  refine L20 zv_8 x3 x4 (fun H locs ls ev_8 hres hG hl => ?_) 300 (((31 : Int64) * x1) + (1 : Int64)) zv_1 (0 : Int32) g _ _ _ hG (lv_sub hl [3, 5, 6, 2, 1, 0] rfl) hizv_8
  have hres := hres.symm
  subst hres
  refine lv_ldc2 (v := 31) hx hb B.2.2.2.1 (hts (.constantLong RX2 175 (31)) (by decide +kernel)) dX2_hashOfDirectory_90 ?_
  refine lv_lload hx hb dX2_hashOfDirectory_93 (lv_at hl 0 rfl) ?_
  refine lv_lmul hx hb dX2_hashOfDirectory_95 ?_
  refine lv_ldc2 (v := 9) hx hb B.2.2.2.1 (hts (.constantLong RX2 229 (9)) (by decide +kernel)) dX2_hashOfDirectory_96 ?_
  refine lv_ladd hx hb dX2_hashOfDirectory_99 ?_
  have hf := Option.some.inj hf
  obtain ⟨e1, e2⟩ := Prod.mk.inj hf
  subst e2
  exact g_lret hr hlk hK hG B e1 dX2_hashOfDirectory_100
def f_X2_hashOfInode (hD : Int64 → Int32 → Int32 → CS → Option (Int64 × CS)) (x1 : Int64) (x3 : Int32) (x4 : Int32) (g : CS) : Option (Int64 × CS) := (if x4 < (12 : Int32) then (if (f_X2_kindOf x3 g) = (1 : Int32) then ((hD x1 x3 x4 g).bind (fun zv_4 => some (zv_4.1, zv_4.2))) else ((f_X2_hashOfFile x1 x3 g).bind (fun zv_3 => some (zv_3, g)))) else some (x1, g))
set_option maxHeartbeats 4000000 in
set_option maxRecDepth 100000 in
theorem c_X2_hashOfInode (l : Launch) (D : va_G) (cI cJ : ClassId) (h0 q1 q2 q3 sz : Nat) (g : CS) (hD : Int64 → Int32 → Int32 → CS → Option (Int64 × CS)) (F L : Nat) (hrec : ∀ (sz : Nat) (g : CS) (x1 : Int64) (x3 x4 : Int32) (r : Int64) (g1 : CS), hD x1 x3 x4 g = some (r, g1) → Met l yX2_hashOfDirectory wsX2_hashOfDirectory { frames := F, cells := 0, slots := 0, locals := L } (gPc D (gT cI cJ) sz (wC h0 q1 q2 q3 cJ g) [.ref h0, .long x1, .int x3, .int x4]) (gQl D (gT cI cJ) (va_A (wC h0 q1 q2 q3 cJ g) sz) r (wC h0 q1 q2 q3 cJ g1)) 0 0 (va_A (wC h0 q1 q2 q3 cJ g) sz)) (x1 : Int64) (x3 : Int32) (x4 : Int32) (r : Int64) (g1 : CS) (hf : f_X2_hashOfInode hD x1 x3 x4 g = some (r, g1)) : Met l yX2_hashOfInode wsX2_hashOfInode { frames := F + 10, cells := 0, slots := 0, locals := L + 300 } (gPc D (gT cI cJ) sz (wC h0 q1 q2 q3 cJ g) [.ref h0, .long x1, .int x3, .int x4]) (gQl D (gT cI cJ) (va_A (wC h0 q1 q2 q3 cJ g) sz) r (wC h0 q1 q2 q3 cJ g1)) 0 0 (va_A (wC h0 q1 q2 q3 cJ g) sz) := by
  refine gMet (cc := cX2_hashOfInode) (maxL := 5) (ret := (some .long)) (by decide) rfl ?_ (Nat.le_of_ble_eq_true rfl)
  intro p e0 s m below meth c ls B hr hlk hsz hK hG hl
  have hA : ∀ q : Nat, s.heap.size ≤ q → va_A (wC h0 q1 q2 q3 cJ g) sz q := fun q h => Or.inr (hsz ▸ h)
  have hx := B.1
  have hb := B.2.1
  have hts := B.2.2.2.2
  have hl : lv_has ls 5 [(0, .ref h0), (1, .long x1), (3, .int x3), (4, .int x4)] := hl
  generalize va_A (wC h0 q1 q2 q3 cJ g) sz = A at hA hG ⊢
  unfold f_X2_hashOfInode at hf
  refine lv_iload hx hb dX2_hashOfInode_0 (lv_at hl 3 rfl) ?_
  refine lv_bipush (v := 12) hx hb dX2_hashOfInode_2 (by decide) ?_
  refine lv_icmp_lt (tgt := 9) hx hb dX2_hashOfInode_4 (by decide) (fun cq_1 => ?_) (fun cq_1 => ?_)
  · have hf := ifT cq_1 hf
    refine lv_aload_n hx hb dX2_hashOfInode_9 rfl (lv_at hl 0 rfl) ?_
    refine lv_iload_n hx hb dX2_hashOfInode_10 rfl (lv_at hl 2 rfl) ?_
    refine gc_Vi hA hK hl.1 hG B (c_X2_kindOf l D cI cJ h0 q1 q2 q3 _ g x3 _ rfl) (cwV 1 hts gX2_hashOfInode_X2_kindOf rfl rfl rfl (by decide +kernel) ⟨by show 1 + 1 ≤ F + 10; omega, by show 8 + (2 + 11) + 21 ≤ L + 300; omega⟩) 0 rfl rfl rfl rfl rfl (Nat.le_of_ble_eq_true rfl) dX2_hashOfInode_11 ⟨Nat.zero_le _, Nat.zero_le _⟩ (fun H locs hG => ?_)
    refine lv_iconst (v := 1) hx hb dX2_hashOfInode_14 (by decide) ?_
    refine lv_icmp_ne (tgt := 29) hx hb dX2_hashOfInode_15 (by decide) (fun cq_2 => ?_) (fun cq_2 => ?_)
    · have hf := ifF cq_2 hf
      refine lv_aload_n hx hb dX2_hashOfInode_29 rfl (lv_at hl 0 rfl) ?_
      refine lv_lload_n hx hb dX2_hashOfInode_30 rfl (lv_at hl 1 rfl) ?_
      refine lv_iload_n hx hb dX2_hashOfInode_31 rfl (lv_at hl 2 rfl) ?_
      obtain ⟨zv_3, hqzv_3, hf⟩ := ob hf
      refine gc_Vl hA hK hl.1 hG B (c_X2_hashOfFile l D cI cJ h0 q1 q2 q3 _ g x1 x3 _ hqzv_3) (cwV 2 hts gX2_hashOfInode_X2_hashOfFile rfl rfl rfl (by decide +kernel) ⟨by show 3 + 1 ≤ F + 10; omega, by show 8 + (9 + 11) + 64 ≤ L + 300; omega⟩) 0 rfl rfl rfl rfl rfl (Nat.le_of_ble_eq_true rfl) dX2_hashOfInode_32 ⟨Nat.zero_le _, Nat.zero_le _⟩ (fun H locs hG => ?_)
      have hf := Option.some.inj hf
      obtain ⟨e1, e2⟩ := Prod.mk.inj hf
      subst e2
      exact g_lret hr hlk hK hG B e1 dX2_hashOfInode_35
    · have hf := ifT cq_2 hf
      refine lv_aload_n hx hb dX2_hashOfInode_18 rfl (lv_at hl 0 rfl) ?_
      refine lv_lload_n hx hb dX2_hashOfInode_19 rfl (lv_at hl 1 rfl) ?_
      refine lv_iload_n hx hb dX2_hashOfInode_20 rfl (lv_at hl 2 rfl) ?_
      refine lv_iload hx hb dX2_hashOfInode_21 (lv_at hl 3 rfl) ?_
      obtain ⟨zv_4, hqzv_4, hf⟩ := ob hf
      refine gc_Vl hA hK hl.1 hG B (hrec _ g x1 x3 x4 _ _ hqzv_4) (cwV 3 hts gX2_hashOfInode_X2_hashOfDirectory rfl rfl rfl (by decide +kernel) ⟨by show F + 1 ≤ F + 10; omega, by show 8 + (9 + 11) + L ≤ L + 300; omega⟩) 0 rfl rfl rfl rfl rfl (Nat.le_of_ble_eq_true rfl) dX2_hashOfInode_23 ⟨Nat.zero_le _, Nat.zero_le _⟩ (fun H locs hG => ?_)
      refine lv_goto (tgt := 35) hx hb dX2_hashOfInode_26 (by decide) ?_
      have hf := Option.some.inj hf
      obtain ⟨e1, e2⟩ := Prod.mk.inj hf
      subst e2
      exact g_lret hr hlk hK hG B e1 dX2_hashOfInode_35
  · have hf := ifF cq_1 hf
    refine lv_lload_n hx hb dX2_hashOfInode_7 rfl (lv_at hl 1 rfl) ?_
    have hf := Option.some.inj hf
    obtain ⟨e1, e2⟩ := Prod.mk.inj hf
    subst e2
    exact g_lret hr hlk hK hG B e1 dX2_hashOfInode_8
def f_hI : Nat → Int64 → Int32 → Int32 → CS → Option (Int64 × CS)
  | 0 => fun _ _ _ _ => none
  | n + 1 => f_X2_hashOfInode (f_X2_hashOfDirectory (f_hI n))
theorem c_hI (l : Launch) (D : va_G) (cI cJ : ClassId) (h0 q1 q2 q3 : Nat) : ∀ (n sz : Nat) (g : CS) (x1 : Int64) (x3 x4 : Int32) (r : Int64) (g1 : CS), f_hI n x1 x3 x4 g = some (r, g1) → Met l yX2_hashOfInode wsX2_hashOfInode { frames := 20 * n, cells := 0, slots := 0, locals := 600 * n } (gPc D (gT cI cJ) sz (wC h0 q1 q2 q3 cJ g) [.ref h0, .long x1, .int x3, .int x4]) (gQl D (gT cI cJ) (va_A (wC h0 q1 q2 q3 cJ g) sz) r (wC h0 q1 q2 q3 cJ g1)) 0 0 (va_A (wC h0 q1 q2 q3 cJ g) sz) := by
  intro n
  induction n with
  | zero => intro sz g x1 x3 x4 r g1 h; cases h
  | succ n ih =>
    intro sz g x1 x3 x4 r g1 h
    exact c_X2_hashOfInode l D cI cJ h0 q1 q2 q3 sz g (f_X2_hashOfDirectory (f_hI n)) (20 * n + 10) (600 * n + 300) (fun sz g x1 x3 x4 r g1 h => c_X2_hashOfDirectory l D cI cJ h0 q1 q2 q3 sz g (f_hI n) (20 * n) (600 * n) ih x1 x3 x4 r g1 h) x1 x3 x4 r g1 h
def f_X2_tree  (g : CS) : Option (Int64 × CS) := ((f_hI 13 (5 : Int64) (0 : Int32) (0 : Int32) (sC_met (1 : Int32) g)).bind (fun zv_1 => some (zv_1.1, zv_1.2)))
set_option maxHeartbeats 4000000 in
set_option maxRecDepth 100000 in
theorem c_X2_tree (l : Launch) (D : va_G) (cI cJ : ClassId) (h0 q1 q2 q3 sz : Nat) (g : CS)  (r : Int64) (g1 : CS) (hf : f_X2_tree  g = some (r, g1)) : Met l yX2_tree wsX2_tree { frames := 261, cells := 0, slots := 0, locals := 7824 } (gPc D (gT cI cJ) sz (wC h0 q1 q2 q3 cJ g) [.ref h0]) (gQl D (gT cI cJ) (va_A (wC h0 q1 q2 q3 cJ g) sz) r (wC h0 q1 q2 q3 cJ g1)) 0 0 (va_A (wC h0 q1 q2 q3 cJ g) sz) := by
  refine gMet (cc := cX2_tree) (maxL := 1) (ret := (some .long)) (by decide) rfl ?_ (Nat.le_of_ble_eq_true rfl)
  intro p e0 s m below meth c ls B hr hlk hsz hK hG hl
  have hA : ∀ q : Nat, s.heap.size ≤ q → va_A (wC h0 q1 q2 q3 cJ g) sz q := fun q h => Or.inr (hsz ▸ h)
  have hx := B.1
  have hb := B.2.1
  have hts := B.2.2.2.2
  have hl : lv_has ls 1 [(0, .ref h0)] := hl
  generalize va_A (wC h0 q1 q2 q3 cJ g) sz = A at hA hG ⊢
  have hinX2 : ∀ x ∈ wsX20, x ∈ wsX2_tree := by decide +kernel
  have m_164 : Cond.fieldLink RX2 164 "BlockMover" "inodesMet" "I" ∈ wsX2_tree := by decide +kernel
  unfold f_X2_tree at hf
  refine lv_aload_n hx hb dX2_tree_0 rfl (lv_at hl 0 rfl) ?_
  refine lv_iconst (v := 1) hx hb dX2_tree_1 (by decide) ?_
  refine gp_C_met hK hG B hinX2 m_164 dX2_tree_2 (fun H locs hG => ?_)
  refine lv_aload_n hx hb dX2_tree_5 rfl (lv_at hl 0 rfl) ?_
  refine lv_ldc2 (v := 5) hx hb B.2.2.2.1 (hts (.constantLong RX2 167 (5)) (by decide +kernel)) dX2_tree_6 ?_
  refine lv_iconst (v := 0) hx hb dX2_tree_9 (by decide) ?_
  refine lv_iconst (v := 0) hx hb dX2_tree_10 (by decide) ?_
  obtain ⟨zv_1, hqzv_1, hf⟩ := ob hf
  refine gc_Vl hA hK hl.1 hG B (c_hI l D cI cJ h0 q1 q2 q3 13 _ (sC_met (1 : Int32) g) (5 : Int64) (0 : Int32) (0 : Int32) _ _ hqzv_1) (cwV 3 hts gX2_tree_X2_hashOfInode rfl rfl rfl (by decide +kernel) ⟨by decide, by decide⟩) 0 rfl rfl rfl rfl rfl (Nat.le_of_ble_eq_true rfl) dX2_tree_11 ⟨Nat.zero_le _, Nat.zero_le _⟩ (fun H locs hG => ?_)
  have hf := Option.some.inj hf
  obtain ⟨e1, e2⟩ := Prod.mk.inj hf
  subst e2
  exact g_lret hr hlk hK hG B e1 dX2_tree_14
