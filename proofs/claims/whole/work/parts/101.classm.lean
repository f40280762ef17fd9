def b_X2_make_102 (y1_102 : Int32) (y2_102 : Int32) (y3_102 : Int32) (y4_102 : Int32) (y5_102 : Int32) (y6_102 : Int32) (g102 : CS) : Option ((CS) ⊕ (Int32 × CS)) := (if (8 : Int32) ≤ y6_102 then some (.inl g102) else some (.inr ((y6_102 + (1 : Int32)), (f_X0_write (f_X2_placeAt y4_102 y6_102) (0 : Int64) g102))))
def f_X2_make (x1 : Int32) (x2 : Int32) (x3 : Int32) (g : CS) : Option (Int32 × CS) := (if (f_X2_isOfKind x1 (1 : Int32) g) = (0 : Int32) then some ((-1 : Int32), g) else (if (f_X2_isName x2) = (0 : Int32) then some ((-1 : Int32), g) else (if x3 = (1 : Int32) then (if (C_down g) = (0 : Int32) then ((f_X2_placeOfName x1 x2 g).bind (fun zv_5 => (if zv_5 = (-3 : Int32) then ((f_X2_leastInodeOfNoKind  g).bind (fun zv_7 => ((f_X2_leastPlaceWithoutEntry x1 g).bind (fun zv_8 => (if zv_7 = (-3 : Int32) then some ((-5 : Int32), g) else (if zv_8 = (-3 : Int32) then some ((-5 : Int32), g) else ((itl (fun a : Int32 × CS => b_X2_make_102 x1 x2 x3 zv_7 zv_8 a.1 a.2) 300 ((0 : Int32), (f_X0_write (f_X2_inodeAt zv_7 (1 : Int32)) (0 : Int64) g))).bind (fun ev_12 => some ((f_X2_answerOrDown zv_7 (f_X0_write (f_X2_placeAt x1 zv_8) (f_X2_entryOf zv_7 x2).toInt64 (f_X0_write (f_X2_inodeAt zv_7 (0 : Int32)) x3.toInt64 ev_12))), (f_X0_write (f_X2_placeAt x1 zv_8) (f_X2_entryOf zv_7 x2).toInt64 (f_X0_write (f_X2_inodeAt zv_7 (0 : Int32)) x3.toInt64 ev_12))))))))))) else some ((-4 : Int32), g)))) else some ((-2 : Int32), g)) else (if x3 = (2 : Int32) then (if (C_down g) = (0 : Int32) then ((f_X2_placeOfName x1 x2 g).bind (fun zv_15 => (if zv_15 = (-3 : Int32) then ((f_X2_leastInodeOfNoKind  g).bind (fun zv_17 => ((f_X2_leastPlaceWithoutEntry x1 g).bind (fun zv_18 => (if zv_17 = (-3 : Int32) then some ((-5 : Int32), g) else (if zv_18 = (-3 : Int32) then some ((-5 : Int32), g) else ((itl (fun a : Int32 × CS => b_X2_make_102 x1 x2 x3 zv_17 zv_18 a.1 a.2) 300 ((0 : Int32), (f_X0_write (f_X2_inodeAt zv_17 (1 : Int32)) (0 : Int64) g))).bind (fun ev_21 => some ((f_X2_answerOrDown zv_17 (f_X0_write (f_X2_placeAt x1 zv_18) (f_X2_entryOf zv_17 x2).toInt64 (f_X0_write (f_X2_inodeAt zv_17 (0 : Int32)) x3.toInt64 ev_21))), (f_X0_write (f_X2_placeAt x1 zv_18) (f_X2_entryOf zv_17 x2).toInt64 (f_X0_write (f_X2_inodeAt zv_17 (0 : Int32)) x3.toInt64 ev_21))))))))))) else some ((-4 : Int32), g)))) else some ((-2 : Int32), g)) else some ((-1 : Int32), g)))))
set_option maxHeartbeats 4000000 in
set_option maxRecDepth 100000 in
theorem c_X2_make (l : Launch) (D : va_G) (cI cJ : ClassId) (h0 q1 q2 q3 sz : Nat) (g : CS) (x1 : Int32) (x2 : Int32) (x3 : Int32) (r : Int32) (g1 : CS) (hf : f_X2_make x1 x2 x3 g = some (r, g1)) : Met l yX2_make wsX2_make { frames := 4, cells := 0, slots := 0, locals := 87 } (gPc D (gT cI cJ) sz (wC h0 q1 q2 q3 cJ g) [.ref h0, .int x1, .int x2, .int x3]) (gQi D (gT cI cJ) (va_A (wC h0 q1 q2 q3 cJ g) sz) r (wC h0 q1 q2 q3 cJ g1)) 0 0 (va_A (wC h0 q1 q2 q3 cJ g) sz) := by
  refine gMet (cc := cX2_make) (maxL := 7) (ret := (some .int)) (by decide) rfl ?_ (Nat.le_of_ble_eq_true rfl)
  intro p e0 s m below meth c ls B hr hlk hsz hK hG hl
  have hA : ∀ q : Nat, s.heap.size ≤ q → va_A (wC h0 q1 q2 q3 cJ g) sz q := fun q h => Or.inr (hsz ▸ h)
  have hx := B.1
  have hb := B.2.1
  have hts := B.2.2.2.2
  have hl : lv_has ls 7 [(0, .ref h0), (1, .int x1), (2, .int x2), (3, .int x3)] := hl
  generalize va_A (wC h0 q1 q2 q3 cJ g) sz = A at hA hG ⊢
  have hinX0 : ∀ x ∈ wsX00, x ∈ wsX2_make := by decide +kernel
  have hinX2 : ∀ x ∈ wsX20, x ∈ wsX2_make := by decide +kernel
  have m_12 : Cond.fieldLink RX2 12 "BlockMover" "disk" "LBlockMover$Disk;" ∈ wsX2_make := by decide +kernel
  have m_31 : Cond.fieldLink RX2 31 "BlockMover$Disk" "down" "Z" ∈ wsX2_make := by decide +kernel
  have L102 : ∀ (res : (CS)) (y1_102 : Int32) (y2_102 : Int32) (y3_102 : Int32) (y4_102 : Int32) (y5_102 : Int32), (∀ (H1 : Heap) (locs1 : List Loc) (ls1 : Array Slot) (e : CS), res = e → gG D A s.heap (wC h0 q1 q2 q3 cJ e) H1 locs1 → lv_has ls1 7 [(0, .ref h0), (1, .int y1_102), (2, .int y2_102), (3, .int y3_102), (4, .int y4_102), (5, .int y5_102)] → W p l e0 { frames := 4, cells := 0, slots := 0, locals := 87 } s m ([.ref h0, .int x1, .int x2, .int x3] : List Value).toArray below meth c H1 locs1 0 0 (MQ below (gQi D (gT cI cJ) A r (wC h0 q1 q2 q3 cJ g1)) ([.ref h0, .int x1, .int x2, .int x3] : List Value).toArray s 0 0 A) (F0 m 130 ls1 [])) → ∀ (n : Nat) (y6_102 : Int32) (g102 : CS) (H : Heap) (locs : List Loc) (ls : Array Slot), gG D A s.heap (wC h0 q1 q2 q3 cJ g102) H locs → lv_has ls 7 [(0, .ref h0), (1, .int y1_102), (2, .int y2_102), (3, .int y3_102), (4, .int y4_102), (5, .int y5_102), (6, .int y6_102)] → itl (fun a : Int32 × CS => b_X2_make_102 y1_102 y2_102 y3_102 y4_102 y5_102 a.1 a.2) n (y6_102, g102) = some res → W p l e0 { frames := 4, cells := 0, slots := 0, locals := 87 } s m ([.ref h0, .int x1, .int x2, .int x3] : List Value).toArray below meth c H locs 0 0 (MQ below (gQi D (gT cI cJ) A r (wC h0 q1 q2 q3 cJ g1)) ([.ref h0, .int x1, .int x2, .int x3] : List Value).toArray s 0 0 A) (F0 m 102 ls []) := by
    intro res y1_102 y2_102 y3_102 y4_102 y5_102 hKe102 n
    induction n with
    | zero => exact fun y6_102 g102 H locs ls hG hl hf => (itl_0 hf).elim
    | succ n ih =>
      intro y6_102 g102 H locs ls hG hl hf
      obtain ⟨o, hf, ho102, hn102⟩ := itl_s hf
      have hf : b_X2_make_102 y1_102 y2_102 y3_102 y4_102 y5_102 y6_102 g102 = some o := hf
      unfold b_X2_make_102 at hf
      refine lv_iload hx hb dX2_make_102 (lv_at hl 6 rfl) ?_
      refine lv_bipush (v := 8) hx hb dX2_make_104 (by decide) ?_
      refine lv_icmp_ge (tgt := 130) hx hb dX2_make_106 (by decide) (fun cq_11 => ?_) (fun cq_11 => ?_)
      · have hf := ifT cq_11 hf
        have hres := ho102 _ (Option.some.inj hf).symm
        exact hKe102 _ _ _ g102 hres.symm hG (lv_sub hl [0, 1, 2, 3, 4, 5] rfl)
      · have hf := ifF cq_11 hf
        refine lv_aload_n hx hb dX2_make_109 rfl (lv_at hl 0 rfl) ?_
        refine g_get hK hG B hinX2 0 rfl rfl 0 (by decide) m_12 rfl dX2_make_110 ?_
        refine lv_iload hx hb dX2_make_113 (lv_at hl 4 rfl) ?_
        refine lv_iload hx hb dX2_make_115 (lv_at hl 6 rfl) ?_
        refine gc_Si hA hK hl.1 hG B (c_X2_placeAt l D (gT cI cJ) _ (wC h0 q1 q2 q3 cJ g102) y4_102 y6_102 _ rfl) (va_cwS 2 hts gX2_make_X2_placeAt rfl rfl rfl (by decide +kernel) ⟨by decide, by decide⟩) rfl rfl (Nat.le_of_ble_eq_true rfl) dX2_make_117 ⟨Nat.zero_le _, Nat.zero_le _⟩ (fun H locs hG => ?_)
        refine lv_lconst (v := 0) hx hb dX2_make_120 (by decide) ?_
        refine gc_Vv hA hK hl.1 hG B (c_X0_write l D cI cJ h0 q1 q2 q3 _ g102 (f_X2_placeAt y4_102 y6_102) (0 : Int64) _ rfl) (cwV 2 hts gX2_make_X0_write rfl rfl rfl (by decide +kernel) ⟨by decide, by decide⟩) 1 rfl rfl rfl rfl rfl (Nat.le_of_ble_eq_true rfl) dX2_make_121 ⟨Nat.zero_le _, Nat.zero_le _⟩ (fun H locs hG => ?_)
        refine lv_iinc (v := (y6_102 + (1 : Int32))) (lv' := [(6, .int (y6_102 + (1 : Int32))), (0, .ref h0), (1, .int y1_102), (2, .int y2_102), (3, .int y3_102), (4, .int y4_102), (5, .int y5_102)]) hx hb dX2_make_124 hl (k := 6) rfl rfl (by decide) rfl (fun ls hl => ?_)
        refine lv_goto (tgt := 102) hx hb dX2_make_127 (by decide) ?_
        have hn := hn102 _ (Option.some.inj hf).symm
        exact ih (y6_102 + (1 : Int32)) (f_X0_write (f_X2_placeAt y4_102 y6_102) (0 : Int64) g102) _ _ _ hG (lv_sub hl [1, 2, 3, 4, 5, 6, 0] rfl) hn
  unfold f_X2_make at hf
  refine lv_aload_n hx hb dX2_make_0 rfl (lv_at hl 0 rfl) ?_
  refine lv_iload_n hx hb dX2_make_1 rfl (lv_at hl 1 rfl) ?_
  refine lv_iconst (v := 1) hx hb dX2_make_2 (by decide) ?_
  refine gc_Vi hA hK hl.1 hG B (c_X2_isOfKind l D cI cJ h0 q1 q2 q3 _ g x1 (1 : Int32) _ rfl) (cwV 2 hts gX2_make_X2_isOfKind rfl rfl rfl (by decide +kernel) ⟨by decide, by decide⟩) 0 rfl rfl rfl rfl rfl (Nat.le_of_ble_eq_true rfl) dX2_make_3 ⟨Nat.zero_le _, Nat.zero_le _⟩ (fun H locs hG => ?_)
  refine lv_if_eq (tgt := 26) hx hb dX2_make_6 (by decide) (fun cq_1 => ?_) (fun cq_1 => ?_)
  · have hf := ifT cq_1 hf
    refine lv_iconst (v := -1) hx hb dX2_make_26 (by decide) ?_
    have hf := Option.some.inj hf
    obtain ⟨e1, e2⟩ := Prod.mk.inj hf
    subst e2
    exact g_iret hr hlk hK hG B rfl e1 dX2_make_27
  · have hf := ifF cq_1 hf
    refine lv_iload_n hx hb dX2_make_9 rfl (lv_at hl 2 rfl) ?_
    refine gc_Si hA hK hl.1 hG B (c_X2_isName l D (gT cI cJ) _ (wC h0 q1 q2 q3 cJ g) x2 _ rfl) (va_cwS 1 hts gX2_make_X2_isName rfl rfl rfl (by decide +kernel) ⟨by decide, by decide⟩) rfl rfl (Nat.le_of_ble_eq_true rfl) dX2_make_10 ⟨Nat.zero_le _, Nat.zero_le _⟩ (fun H locs hG => ?_)
    refine lv_if_eq (tgt := 26) hx hb dX2_make_13 (by decide) (fun cq_2 => ?_) (fun cq_2 => ?_)
    · have hf := ifT cq_2 hf
      refine lv_iconst (v := -1) hx hb dX2_make_26 (by decide) ?_
      have hf := Option.some.inj hf
      obtain ⟨e1, e2⟩ := Prod.mk.inj hf
      subst e2
      exact g_iret hr hlk hK hG B rfl e1 dX2_make_27
    · have hf := ifF cq_2 hf
      refine lv_iload_n hx hb dX2_make_16 rfl (lv_at hl 3 rfl) ?_
      refine lv_iconst (v := 1) hx hb dX2_make_17 (by decide) ?_
      refine lv_icmp_eq (tgt := 28) hx hb dX2_make_18 (by decide) (fun cq_3 => ?_) (fun cq_3 => ?_)
      · have hf := ifT cq_3 hf
        refine lv_aload_n hx hb dX2_make_28 rfl (lv_at hl 0 rfl) ?_
        refine g_get hK hG B hinX2 0 rfl rfl 0 (by decide) m_12 rfl dX2_make_29 ?_
        refine g_get hK hG B hinX0 1 rfl rfl 3 (by decide) m_31 rfl dX2_make_32 ?_
        refine lv_if_eq (tgt := 41) hx hb dX2_make_35 (by decide) (fun cq_4 => ?_) (fun cq_4 => ?_)
        · have hf := ifT cq_4 hf
          refine lv_aload_n hx hb dX2_make_41 rfl (lv_at hl 0 rfl) ?_
          refine lv_iload_n hx hb dX2_make_42 rfl (lv_at hl 1 rfl) ?_
          refine lv_iload_n hx hb dX2_make_43 rfl (lv_at hl 2 rfl) ?_
          obtain ⟨zv_5, hqzv_5, hf⟩ := ob hf
          refine gc_Vi hA hK hl.1 hG B (c_X2_placeOfName l D cI cJ h0 q1 q2 q3 _ g x1 x2 _ hqzv_5) (cwV 2 hts gX2_make_X2_placeOfName rfl rfl rfl (by decide +kernel) ⟨by decide, by decide⟩) 0 rfl rfl rfl rfl rfl (Nat.le_of_ble_eq_true rfl) dX2_make_44 ⟨Nat.zero_le _, Nat.zero_le _⟩ (fun H locs hG => ?_)
          refine lv_bipush (v := -3) hx hb dX2_make_47 (by decide) ?_
          refine lv_icmp_eq (tgt := 55) hx hb dX2_make_49 (by decide) (fun cq_6 => ?_) (fun cq_6 => ?_)
          · have hf := ifT cq_6 hf
            refine lv_aload_n hx hb dX2_make_55 rfl (lv_at hl 0 rfl) ?_
            obtain ⟨zv_7, hqzv_7, hf⟩ := ob hf
            refine gc_Vi hA hK hl.1 hG B (c_X2_leastInodeOfNoKind l D cI cJ h0 q1 q2 q3 _ g  _ hqzv_7) (cwV 0 hts gX2_make_X2_leastInodeOfNoKind rfl rfl rfl (by decide +kernel) ⟨by decide, by decide⟩) 0 rfl rfl rfl rfl rfl (Nat.le_of_ble_eq_true rfl) dX2_make_56 ⟨Nat.zero_le _, Nat.zero_le _⟩ (fun H locs hG => ?_)
            refine lv_istore (lv' := [(4, .int zv_7), (0, .ref h0), (1, .int x1), (2, .int x2), (3, .int x3)]) hx hb dX2_make_59 hl (by decide) rfl (fun ls hl => ?_)
            refine lv_aload_n hx hb dX2_make_61 rfl (lv_at hl 1 rfl) ?_
            refine lv_iload_n hx hb dX2_make_62 rfl (lv_at hl 2 rfl) ?_
            obtain ⟨zv_8, hqzv_8, hf⟩ := ob hf
            refine gc_Vi hA hK hl.1 hG B (c_X2_leastPlaceWithoutEntry l D cI cJ h0 q1 q2 q3 _ g x1 _ hqzv_8) (cwV 1 hts gX2_make_X2_leastPlaceWithoutEntry rfl rfl rfl (by decide +kernel) ⟨by decide, by decide⟩) 0 rfl rfl rfl rfl rfl (Nat.le_of_ble_eq_true rfl) dX2_make_63 ⟨Nat.zero_le _, Nat.zero_le _⟩ (fun H locs hG => ?_)
            refine lv_istore (lv' := [(5, .int zv_8), (4, .int zv_7), (0, .ref h0), (1, .int x1), (2, .int x2), (3, .int x3)]) hx hb dX2_make_66 hl (by decide) rfl (fun ls hl => ?_)
            refine lv_iload hx hb dX2_make_68 (lv_at hl 1 rfl) ?_
            refine lv_bipush (v := -3) hx hb dX2_make_70 (by decide) ?_
            refine lv_icmp_eq (tgt := 82) hx hb dX2_make_72 (by decide) (fun cq_9 => ?_) (fun cq_9 => ?_)
            · have hf := ifT cq_9 hf
              refine lv_bipush (v := -5) hx hb dX2_make_82 (by decide) ?_
              have hf := Option.some.inj hf
              obtain ⟨e1, e2⟩ := Prod.mk.inj hf
              subst e2
              exact g_iret hr hlk hK hG B rfl e1 dX2_make_84
            · have hf := ifF cq_9 hf
              refine lv_iload hx hb dX2_make_75 (lv_at hl 0 rfl) ?_
              refine lv_bipush (v := -3) hx hb dX2_make_77 (by decide) ?_
              refine lv_icmp_ne (tgt := 85) hx hb dX2_make_79 (by decide) (fun cq_10 => ?_) (fun cq_10 => ?_)
              · have hf := ifF cq_10 hf
                refine lv_aload_n hx hb dX2_make_85 rfl (lv_at hl 2 rfl) ?_
                refine g_get hK hG B hinX2 0 rfl rfl 0 (by decide) m_12 rfl dX2_make_86 ?_
                refine lv_iload hx hb dX2_make_89 (lv_at hl 1 rfl) ?_
                refine lv_iconst (v := 1) hx hb dX2_make_91 (by decide) ?_
                refine gc_Si hA hK hl.1 hG B (c_X2_inodeAt l D (gT cI cJ) _ (wC h0 q1 q2 q3 cJ g) zv_7 (1 : Int32) _ rfl) (va_cwS 2 hts gX2_make_X2_inodeAt rfl rfl rfl (by decide +kernel) ⟨by decide, by decide⟩) rfl rfl (Nat.le_of_ble_eq_true rfl) dX2_make_92 ⟨Nat.zero_le _, Nat.zero_le _⟩ (fun H locs hG => ?_)
                refine lv_lconst (v := 0) hx hb dX2_make_95 (by decide) ?_
                refine gc_Vv hA hK hl.1 hG B (c_X0_write l D cI cJ h0 q1 q2 q3 _ g (f_X2_inodeAt zv_7 (1 : Int32)) (0 : Int64) _ rfl) (cwV 2 hts gX2_make_X0_write rfl rfl rfl (by decide +kernel) ⟨by decide, by decide⟩) 1 rfl rfl rfl rfl rfl (Nat.le_of_ble_eq_true rfl) dX2_make_96 ⟨Nat.zero_le _, Nat.zero_le _⟩ (fun H locs hG => ?_)
                refine lv_iconst (v := 0) hx hb dX2_make_99 (by decide) ?_
                refine lv_istore (lv' := [(6, .int (0 : Int32)), (5, .int zv_8), (4, .int zv_7), (0, .ref h0), (1, .int x1), (2, .int x2), (3, .int x3)]) hx hb dX2_make_100 hl (by decide) rfl (fun ls hl => ?_)
                obtain ⟨zv_12, hizv_12, hf⟩ := ob hf
                refine L102 zv_12 x1 x2 x3 zv_7 zv_8 (fun H locs ls ev_12 hres hG hl => ?_) 300 (0 : Int32) (f_X0_write (f_X2_inodeAt zv_7 (1 : Int32)) (0 : Int64) g) _ _ _ hG (lv_sub hl [3, 4, 5, 6, 2, 1, 0] rfl) hizv_12
                have hres := hres.symm
                subst hres
                refine lv_aload_n hx hb dX2_make_130 rfl (lv_at hl 0 rfl) ?_
                refine g_get hK hG B hinX2 0 rfl rfl 0 (by decide) m_12 rfl dX2_make_131 ?_
                refine lv_iload hx hb dX2_make_134 (lv_at hl 4 rfl) ?_
                refine lv_iconst (v := 0) hx hb dX2_make_136 (by decide) ?_
                refine gc_Si hA hK hl.1 hG B (c_X2_inodeAt l D (gT cI cJ) _ (wC h0 q1 q2 q3 cJ ev_12) zv_7 (0 : Int32) _ rfl) (va_cwS 2 hts gX2_make_X2_inodeAt rfl rfl rfl (by decide +kernel) ⟨by decide, by decide⟩) rfl rfl (Nat.le_of_ble_eq_true rfl) dX2_make_137 ⟨Nat.zero_le _, Nat.zero_le _⟩ (fun H locs hG => ?_)
                refine lv_iload_n hx hb dX2_make_140 rfl (lv_at hl 3 rfl) ?_
                refine lv_i2l hx hb dX2_make_141 rfl ?_
                refine gc_Vv hA hK hl.1 hG B (c_X0_write l D cI cJ h0 q1 q2 q3 _ ev_12 (f_X2_inodeAt zv_7 (0 : Int32)) x3.toInt64 _ rfl) (cwV 2 hts gX2_make_X0_write rfl rfl rfl (by decide +kernel) ⟨by decide, by decide⟩) 1 rfl rfl rfl rfl rfl (Nat.le_of_ble_eq_true rfl) dX2_make_142 ⟨Nat.zero_le _, Nat.zero_le _⟩ (fun H locs hG => ?_)
                refine lv_aload_n hx hb dX2_make_145 rfl (lv_at hl 0 rfl) ?_
                refine g_get hK hG B hinX2 0 rfl rfl 0 (by decide) m_12 rfl dX2_make_146 ?_
                refine lv_iload_n hx hb dX2_make_149 rfl (lv_at hl 1 rfl) ?_
                refine lv_iload hx hb dX2_make_150 (lv_at hl 5 rfl) ?_
                refine gc_Si hA hK hl.1 hG B (c_X2_placeAt l D (gT cI cJ) _ (wC h0 q1 q2 q3 cJ (f_X0_write (f_X2_inodeAt zv_7 (0 : Int32)) x3.toInt64 ev_12)) x1 zv_8 _ rfl) (va_cwS 2 hts gX2_make_X2_placeAt rfl rfl rfl (by decide +kernel) ⟨by decide, by decide⟩) rfl rfl (Nat.le_of_ble_eq_true rfl) dX2_make_152 ⟨Nat.zero_le _, Nat.zero_le _⟩ (fun H locs hG => ?_)
                refine lv_iload hx hb dX2_make_155 (lv_at hl 4 rfl) ?_
                refine lv_iload_n hx hb dX2_make_157 rfl (lv_at hl 2 rfl) ?_
                refine gc_Si hA hK hl.1 hG B (c_X2_entryOf l D (gT cI cJ) _ (wC h0 q1 q2 q3 cJ (f_X0_write (f_X2_inodeAt zv_7 (0 : Int32)) x3.toInt64 ev_12)) zv_7 x2 _ rfl) (va_cwS 2 hts gX2_make_X2_entryOf rfl rfl rfl (by decide +kernel) ⟨by decide, by decide⟩) rfl rfl (Nat.le_of_ble_eq_true rfl) dX2_make_158 ⟨Nat.zero_le _, Nat.zero_le _⟩ (fun H locs hG => ?_)
                refine lv_i2l hx hb dX2_make_161 rfl ?_
                refine gc_Vv hA hK hl.1 hG B (c_X0_write l D cI cJ h0 q1 q2 q3 _ (f_X0_write (f_X2_inodeAt zv_7 (0 : Int32)) x3.toInt64 ev_12) (f_X2_placeAt x1 zv_8) (f_X2_entryOf zv_7 x2).toInt64 _ rfl) (cwV 2 hts gX2_make_X0_write rfl rfl rfl (by decide +kernel) ⟨by decide, by decide⟩) 1 rfl rfl rfl rfl rfl (Nat.le_of_ble_eq_true rfl) dX2_make_162 ⟨Nat.zero_le _, Nat.zero_le _⟩ (fun H locs hG => ?_)
                refine lv_aload_n hx hb dX2_make_165 rfl (lv_at hl 0 rfl) ?_
                refine lv_iload hx hb dX2_make_166 (lv_at hl 4 rfl) ?_
                refine gc_Vi hA hK hl.1 hG B (c_X2_answerOrDown l D cI cJ h0 q1 q2 q3 _ (f_X0_write (f_X2_placeAt x1 zv_8) (f_X2_entryOf zv_7 x2).toInt64 (f_X0_write (f_X2_inodeAt zv_7 (0 : Int32)) x3.toInt64 ev_12)) zv_7 _ rfl) (cwV 1 hts gX2_make_X2_answerOrDown rfl rfl rfl (by decide +kernel) ⟨by decide, by decide⟩) 0 rfl rfl rfl rfl rfl (Nat.le_of_ble_eq_true rfl) dX2_make_168 ⟨Nat.zero_le _, Nat.zero_le _⟩ (fun H locs hG => ?_)
                have hf := Option.some.inj hf
                obtain ⟨e1, e2⟩ := Prod.mk.inj hf
                subst e2
                exact g_iret hr hlk hK hG B rfl e1 dX2_make_171
              · have hf := ifT cq_10 hf
                refine lv_bipush (v := -5) hx hb dX2_make_82 (by decide) ?_
                have hf := Option.some.inj hf
                obtain ⟨e1, e2⟩ := Prod.mk.inj hf
                subst e2
                exact g_iret hr hlk hK hG B rfl e1 dX2_make_84
          · have hf := ifF cq_6 hf
            refine lv_bipush (v := -4) hx hb dX2_make_52 (by decide) ?_
            have hf := Option.some.inj hf
            obtain ⟨e1, e2⟩ := Prod.mk.inj hf
            subst e2
            exact g_iret hr hlk hK hG B rfl e1 dX2_make_54
        · have hf := ifF cq_4 hf
          refine lv_bipush (v := -2) hx hb dX2_make_38 (by decide) ?_
          have hf := Option.some.inj hf
          obtain ⟨e1, e2⟩ := Prod.mk.inj hf
          subst e2
          exact g_iret hr hlk hK hG B rfl e1 dX2_make_40
      · have hf := ifF cq_3 hf
        refine lv_iload_n hx hb dX2_make_21 rfl (lv_at hl 3 rfl) ?_
        refine lv_iconst (v := 2) hx hb dX2_make_22 (by decide) ?_
        refine lv_icmp_eq (tgt := 28) hx hb dX2_make_23 (by decide) (fun cq_13 => ?_) (fun cq_13 => ?_)
        · have hf := ifT cq_13 hf
          refine lv_aload_n hx hb dX2_make_28 rfl (lv_at hl 0 rfl) ?_
          refine g_get hK hG B hinX2 0 rfl rfl 0 (by decide) m_12 rfl dX2_make_29 ?_
          refine g_get hK hG B hinX0 1 rfl rfl 3 (by decide) m_31 rfl dX2_make_32 ?_
          refine lv_if_eq (tgt := 41) hx hb dX2_make_35 (by decide) (fun cq_14 => ?_) (fun cq_14 => ?_)
          · have hf := ifT cq_14 hf
            refine lv_aload_n hx hb dX2_make_41 rfl (lv_at hl 0 rfl) ?_
            refine lv_iload_n hx hb dX2_make_42 rfl (lv_at hl 1 rfl) ?_
            refine lv_iload_n hx hb dX2_make_43 rfl (lv_at hl 2 rfl) ?_
            obtain ⟨zv_15, hqzv_15, hf⟩ := ob hf
            refine gc_Vi hA hK hl.1 hG B (c_X2_placeOfName l D cI cJ h0 q1 q2 q3 _ g x1 x2 _ hqzv_15) (cwV 2 hts gX2_make_X2_placeOfName rfl rfl rfl (by decide +kernel) ⟨by decide, by decide⟩) 0 rfl rfl rfl rfl rfl (Nat.le_of_ble_eq_true rfl) dX2_make_44 ⟨Nat.zero_le _, Nat.zero_le _⟩ (fun H locs hG => ?_)
            refine lv_bipush (v := -3) hx hb dX2_make_47 (by decide) ?_
            refine lv_icmp_eq (tgt := 55) hx hb dX2_make_49 (by decide) (fun cq_16 => ?_) (fun cq_16 => ?_)
            · have hf := ifT cq_16 hf
              refine lv_aload_n hx hb dX2_make_55 rfl (lv_at hl 0 rfl) ?_
              obtain ⟨zv_17, hqzv_17, hf⟩ := ob hf
              refine gc_Vi hA hK hl.1 hG B (c_X2_leastInodeOfNoKind l D cI cJ h0 q1 q2 q3 _ g  _ hqzv_17) (cwV 0 hts gX2_make_X2_leastInodeOfNoKind rfl rfl rfl (by decide +kernel) ⟨by decide, by decide⟩) 0 rfl rfl rfl rfl rfl (Nat.le_of_ble_eq_true rfl) dX2_make_56 ⟨Nat.zero_le _, Nat.zero_le _⟩ (fun H locs hG => ?_)
              refine lv_istore (lv' := [(4, .int zv_17), (0, .ref h0), (1, .int x1), (2, .int x2), (3, .int x3)]) hx hb dX2_make_59 hl (by decide) rfl (fun ls hl => ?_)
              refine lv_aload_n hx hb dX2_make_61 rfl (lv_at hl 1 rfl) ?_
              refine lv_iload_n hx hb dX2_make_62 rfl (lv_at hl 2 rfl) ?_
              obtain ⟨zv_18, hqzv_18, hf⟩ := ob hf
              refine gc_Vi hA hK hl.1 hG B (c_X2_leastPlaceWithoutEntry l D cI cJ h0 q1 q2 q3 _ g x1 _ hqzv_18) (cwV 1 hts gX2_make_X2_leastPlaceWithoutEntry rfl rfl rfl (by decide +kernel) ⟨by decide, by decide⟩) 0 rfl rfl rfl rfl rfl (Nat.le_of_ble_eq_true rfl) dX2_make_63 ⟨Nat.zero_le _, Nat.zero_le _⟩ (fun H locs hG => ?_)
              refine lv_istore (lv' := [(5, .int zv_18), (4, .int zv_17), (0, .ref h0), (1, .int x1), (2, .int x2), (3, .int x3)]) hx hb dX2_make_66 hl (by decide) rfl (fun ls hl => ?_)
              refine lv_iload hx hb dX2_make_68 (lv_at hl 1 rfl) ?_
              refine lv_bipush (v := -3) hx hb dX2_make_70 (by decide) ?_
              refine lv_icmp_eq (tgt := 82) hx hb dX2_make_72 (by decide) (fun cq_19 => ?_) (fun cq_19 => ?_)
              · have hf := ifT cq_19 hf
                refine lv_bipush (v := -5) hx hb dX2_make_82 (by decide) ?_
                have hf := Option.some.inj hf
                obtain ⟨e1, e2⟩ := Prod.mk.inj hf
                subst e2
                exact g_iret hr hlk hK hG B rfl e1 dX2_make_84
              · have hf := ifF cq_19 hf
                refine lv_iload hx hb dX2_make_75 (lv_at hl 0 rfl) ?_
                refine lv_bipush (v := -3) hx hb dX2_make_77 (by decide) ?_
                refine lv_icmp_ne (tgt := 85) hx hb dX2_make_79 (by decide) (fun cq_20 => ?_) (fun cq_20 => ?_)
                · have hf := ifF cq_20 hf
                  refine lv_aload_n hx hb dX2_make_85 rfl (lv_at hl 2 rfl) ?_
                  refine g_get hK hG B hinX2 0 rfl rfl 0 (by decide) m_12 rfl dX2_make_86 ?_
                  refine lv_iload hx hb dX2_make_89 (lv_at hl 1 rfl) ?_
                  refine lv_iconst (v := 1) hx hb dX2_make_91 (by decide) ?_
                  refine gc_Si hA hK hl.1 hG B (c_X2_inodeAt l D (gT cI cJ) _ (wC h0 q1 q2 q3 cJ g) zv_17 (1 : Int32) _ rfl) (va_cwS 2 hts gX2_make_X2_inodeAt rfl rfl rfl (by decide +kernel) ⟨by decide, by decide⟩) rfl rfl (Nat.le_of_ble_eq_true rfl) dX2_make_92 ⟨Nat.zero_le _, Nat.zero_le _⟩ (fun H locs hG => ?_)
                  refine lv_lconst (v := 0) hx hb dX2_make_95 (by decide) ?_
                  refine gc_Vv hA hK hl.1 hG B (c_X0_write l D cI cJ h0 q1 q2 q3 _ g (f_X2_inodeAt zv_17 (1 : Int32)) (0 : Int64) _ rfl) (cwV 2 hts gX2_make_X0_write rfl rfl rfl (by decide +kernel) ⟨by decide, by decide⟩) 1 rfl rfl rfl rfl rfl (Nat.le_of_ble_eq_true rfl) dX2_make_96 ⟨Nat.zero_le _, Nat.zero_le _⟩ (fun H locs hG => ?_)
                  refine lv_iconst (v := 0) hx hb dX2_make_99 (by decide) ?_
                  refine lv_istore (lv' := [(6, .int (0 : Int32)), (5, .int zv_18), (4, .int zv_17), (0, .ref h0), (1, .int x1), (2, .int x2), (3, .int x3)]) hx hb dX2_make_100 hl (by decide) rfl (fun ls hl => ?_)
                  obtain ⟨zv_21, hizv_21, hf⟩ := ob hf
                  refine L102 zv_21 x1 x2 x3 zv_17 zv_18 (fun H locs ls ev_21 hres hG hl => ?_) 300 (0 : Int32) (f_X0_write (f_X2_inodeAt zv_17 (1 : Int32)) (0 : Int64) g) _ _ _ hG (lv_sub hl [3, 4, 5, 6, 2, 1, 0] rfl) hizv_21
                  have hres := hres.symm
                  subst hres
                  refine lv_aload_n hx hb dX2_make_130 rfl (lv_at hl 0 rfl) ?_
                  refine g_get hK hG B hinX2 0 rfl rfl 0 (by decide) m_12 rfl dX2_make_131 ?_
                  refine lv_iload hx hb dX2_make_134 (lv_at hl 4 rfl) ?_
                  refine lv_iconst (v := 0) hx hb dX2_make_136 (by decide) ?_
                  refine gc_Si hA hK hl.1 hG B (c_X2_inodeAt l D (gT cI cJ) _ (wC h0 q1 q2 q3 cJ ev_21) zv_17 (0 : Int32) _ rfl) (va_cwS 2 hts gX2_make_X2_inodeAt rfl rfl rfl (by decide +kernel) ⟨by decide, by decide⟩) rfl rfl (Nat.le_of_ble_eq_true rfl) dX2_make_137 ⟨Nat.zero_le _, Nat.zero_le _⟩ (fun H locs hG => ?_)
                  refine lv_iload_n hx hb dX2_make_140 rfl (lv_at hl 3 rfl) ?_
                  refine lv_i2l hx hb dX2_make_141 rfl ?_
                  refine gc_Vv hA hK hl.1 hG B (c_X0_write l D cI cJ h0 q1 q2 q3 _ ev_21 (f_X2_inodeAt zv_17 (0 : Int32)) x3.toInt64 _ rfl) (cwV 2 hts gX2_make_X0_write rfl rfl rfl (by decide +kernel) ⟨by decide, by decide⟩) 1 rfl rfl rfl rfl rfl (Nat.le_of_ble_eq_true rfl) dX2_make_142 ⟨Nat.zero_le _, Nat.zero_le _⟩ (fun H locs hG => ?_)
                  refine lv_aload_n hx hb dX2_make_145 rfl (lv_at hl 0 rfl) ?_
                  refine g_get hK hG B hinX2 0 rfl rfl 0 (by decide) m_12 rfl dX2_make_146 ?_
                  refine lv_iload_n hx hb dX2_make_149 rfl (lv_at hl 1 rfl) ?_
                  refine lv_iload hx hb dX2_make_150 (lv_at hl 5 rfl) ?_
                  refine gc_Si hA hK hl.1 hG B (c_X2_placeAt l D (gT cI cJ) _ (wC h0 q1 q2 q3 cJ (f_X0_write (f_X2_inodeAt zv_17 (0 : Int32)) x3.toInt64 ev_21)) x1 zv_18 _ rfl) (va_cwS 2 hts gX2_make_X2_placeAt rfl rfl rfl (by decide +kernel) ⟨by decide, by decide⟩) rfl rfl (Nat.le_of_ble_eq_true rfl) dX2_make_152 ⟨Nat.zero_le _, Nat.zero_le _⟩ (fun H locs hG => ?_)
                  refine lv_iload hx hb dX2_make_155 (lv_at hl 4 rfl) ?_
                  refine lv_iload_n hx hb dX2_make_157 rfl (lv_at hl 2 rfl) ?_
                  refine gc_Si hA hK hl.1 hG B (c_X2_entryOf l D (gT cI cJ) _ (wC h0 q1 q2 q3 cJ (f_X0_write (f_X2_inodeAt zv_17 (0 : Int32)) x3.toInt64 ev_21)) zv_17 x2 _ rfl) (va_cwS 2 hts gX2_make_X2_entryOf rfl rfl rfl (by decide +kernel) ⟨by decide, by decide⟩) rfl rfl (Nat.le_of_ble_eq_true rfl) dX2_make_158 ⟨Nat.zero_le _, Nat.zero_le _⟩ (fun H locs hG => ?_)
                  refine lv_i2l hx hb dX2_make_161 rfl ?_
                  refine gc_Vv hA hK hl.1 hG B (c_X0_write l D cI cJ h0 q1 q2 q3 _ (f_X0_write (f_X2_inodeAt zv_17 (0 : Int32)) x3.toInt64 ev_21) (f_X2_placeAt x1 zv_18) (f_X2_entryOf zv_17 x2).toInt64 _ rfl) (cwV 2 hts gX2_make_X0_write rfl rfl rfl (by decide +kernel) ⟨by decide, by decide⟩) 1 rfl rfl rfl rfl rfl (Nat.le_of_ble_eq_true rfl) dX2_make_162 ⟨Nat.zero_le _, Nat.zero_le _⟩ (fun H locs hG => ?_)
                  refine lv_aload_n hx hb dX2_make_165 rfl (lv_at hl 0 rfl) ?_
                  refine lv_iload hx hb dX2_make_166 (lv_at hl 4 rfl) ?_
                  refine gc_Vi hA hK hl.1 hG B (c_X2_answerOrDown l D cI cJ h0 q1 q2 q3 _ (f_X0_write (f_X2_placeAt x1 zv_18) (f_X2_entryOf zv_17 x2).toInt64 (f_X0_write (f_X2_inodeAt zv_17 (0 : Int32)) x3.toInt64 ev_21)) zv_17 _ rfl) (cwV 1 hts gX2_make_X2_answerOrDown rfl rfl rfl (by decide +kernel) ⟨by decide, by decide⟩) 0 rfl rfl rfl rfl rfl (Nat.le_of_ble_eq_true rfl) dX2_make_168 ⟨Nat.zero_le _, Nat.zero_le _⟩ (fun H locs hG => ?_)
                  have hf := Option.some.inj hf
                  obtain ⟨e1, e2⟩ := Prod.mk.inj hf
                  subst e2
                  exact g_iret hr hlk hK hG B rfl e1 dX2_make_171
                · have hf := ifT cq_20 hf
                  refine lv_bipush (v := -5) hx hb dX2_make_82 (by decide) ?_
                  have hf := Option.some.inj hf
                  obtain ⟨e1, e2⟩ := Prod.mk.inj hf
                  subst e2
                  exact g_iret hr hlk hK hG B rfl e1 dX2_make_84
            · have hf := ifF cq_16 hf
              refine lv_bipush (v := -4) hx hb dX2_make_52 (by decide) ?_
              have hf := Option.some.inj hf
              obtain ⟨e1, e2⟩ := Prod.mk.inj hf
              subst e2
              exact g_iret hr hlk hK hG B rfl e1 dX2_make_54
          · have hf := ifF cq_14 hf
            refine lv_bipush (v := -2) hx hb dX2_make_38 (by decide) ?_
            have hf := Option.some.inj hf
            obtain ⟨e1, e2⟩ := Prod.mk.inj hf
            subst e2
            exact g_iret hr hlk hK hG B rfl e1 dX2_make_40
        · have hf := ifF cq_13 hf
          refine lv_iconst (v := -1) hx hb dX2_make_26 (by decide) ?_
          have hf := Option.some.inj hf
          obtain ⟨e1, e2⟩ := Prod.mk.inj hf
          subst e2
          exact g_iret hr hlk hK hG B rfl e1 dX2_make_27
def f_X2_sizeOf (x1 : Int32) (g : CS) : Int32 := (f_X0_word (f_X2_inodeAt x1 (1 : Int32)) g).toInt32
set_option maxHeartbeats 4000000 in
set_option maxRecDepth 100000 in
theorem c_X2_sizeOf (l : Launch) (D : va_G) (cI cJ : ClassId) (h0 q1 q2 q3 sz : Nat) (g : CS) (x1 : Int32) (r : Int32) (hf : f_X2_sizeOf x1 g = r) : Met l yX2_sizeOf wsX2_sizeOf { frames := 1, cells := 0, slots := 0, locals := 21 } (gPc D (gT cI cJ) sz (wC h0 q1 q2 q3 cJ g) [.ref h0, .int x1]) (gQi D (gT cI cJ) (va_A (wC h0 q1 q2 q3 cJ g) sz) r (wC h0 q1 q2 q3 cJ g)) 0 0 (va_A (wC h0 q1 q2 q3 cJ g) sz) := by
  refine gMet (cc := cX2_sizeOf) (maxL := 2) (ret := (some .int)) (by decide) rfl ?_ (Nat.le_of_ble_eq_true rfl)
  intro p e0 s m below meth c ls B hr hlk hsz hK hG hl
  have hA : ∀ q : Nat, s.heap.size ≤ q → va_A (wC h0 q1 q2 q3 cJ g) sz q := fun q h => Or.inr (hsz ▸ h)
  have hx := B.1
  have hb := B.2.1
  have hts := B.2.2.2.2
  have hl : lv_has ls 2 [(0, .ref h0), (1, .int x1)] := hl
  generalize va_A (wC h0 q1 q2 q3 cJ g) sz = A at hA hG ⊢
  have hinX2 : ∀ x ∈ wsX20, x ∈ wsX2_sizeOf := by decide +kernel
  have m_12 : Cond.fieldLink RX2 12 "BlockMover" "disk" "LBlockMover$Disk;" ∈ wsX2_sizeOf := by decide +kernel
  unfold f_X2_sizeOf at hf
  refine lv_aload_n hx hb dX2_sizeOf_0 rfl (lv_at hl 0 rfl) ?_
  refine g_get hK hG B hinX2 0 rfl rfl 0 (by decide) m_12 rfl dX2_sizeOf_1 ?_
  refine lv_iload_n hx hb dX2_sizeOf_4 rfl (lv_at hl 1 rfl) ?_
  refine lv_iconst (v := 1) hx hb dX2_sizeOf_5 (by decide) ?_
  refine gc_Si hA hK hl.1 hG B (c_X2_inodeAt l D (gT cI cJ) _ (wC h0 q1 q2 q3 cJ g) x1 (1 : Int32) _ rfl) (va_cwS 2 hts gX2_sizeOf_X2_inodeAt rfl rfl rfl (by decide +kernel) ⟨by decide, by decide⟩) rfl rfl (Nat.le_of_ble_eq_true rfl) dX2_sizeOf_6 ⟨Nat.zero_le _, Nat.zero_le _⟩ (fun H locs hG => ?_)
  refine gc_Vl hA hK hl.1 hG B (c_X0_word l D cI cJ h0 q1 q2 q3 _ g (f_X2_inodeAt x1 (1 : Int32)) _ rfl) (cwV 1 hts gX2_sizeOf_X0_word rfl rfl rfl (by decide +kernel) ⟨by decide, by decide⟩) 1 rfl rfl rfl rfl rfl (Nat.le_of_ble_eq_true rfl) dX2_sizeOf_9 ⟨Nat.zero_le _, Nat.zero_le _⟩ (fun H locs hG => ?_)
  refine lv_l2i hx hb dX2_sizeOf_12 rfl ?_
  exact g_iret hr hlk hK hG B rfl hf dX2_sizeOf_13
def f_X2_blocksOf (x1 : Int32) (g : CS) : Int32 := (if (f_X2_kindOf x1 g) = (2 : Int32) then (f_X2_sizeOf x1 g) else (0 : Int32))
set_option maxHeartbeats 4000000 in
set_option maxRecDepth 100000 in
theorem c_X2_blocksOf (l : Launch) (D : va_G) (cI cJ : ClassId) (h0 q1 q2 q3 sz : Nat) (g : CS) (x1 : Int32) (r : Int32) (hf : f_X2_blocksOf x1 g = r) : Met l yX2_blocksOf wsX2_blocksOf { frames := 2, cells := 0, slots := 0, locals := 42 } (gPc D (gT cI cJ) sz (wC h0 q1 q2 q3 cJ g) [.ref h0, .int x1]) (gQi D (gT cI cJ) (va_A (wC h0 q1 q2 q3 cJ g) sz) r (wC h0 q1 q2 q3 cJ g)) 0 0 (va_A (wC h0 q1 q2 q3 cJ g) sz) := by
  refine gMet (cc := cX2_blocksOf) (maxL := 2) (ret := (some .int)) (by decide) rfl ?_ (Nat.le_of_ble_eq_true rfl)
  intro p e0 s m below meth c ls B hr hlk hsz hK hG hl
  have hA : ∀ q : Nat, s.heap.size ≤ q → va_A (wC h0 q1 q2 q3 cJ g) sz q := fun q h => Or.inr (hsz ▸ h)
  have hx := B.1
  have hb := B.2.1
  have hts := B.2.2.2.2
  have hl : lv_has ls 2 [(0, .ref h0), (1, .int x1)] := hl
  generalize va_A (wC h0 q1 q2 q3 cJ g) sz = A at hA hG ⊢
  unfold f_X2_blocksOf at hf
  refine lv_aload_n hx hb dX2_blocksOf_0 rfl (lv_at hl 0 rfl) ?_
  refine lv_iload_n hx hb dX2_blocksOf_1 rfl (lv_at hl 1 rfl) ?_
  refine gc_Vi hA hK hl.1 hG B (c_X2_kindOf l D cI cJ h0 q1 q2 q3 _ g x1 _ rfl) (cwV 1 hts gX2_blocksOf_X2_kindOf rfl rfl rfl (by decide +kernel) ⟨by decide, by decide⟩) 0 rfl rfl rfl rfl rfl (Nat.le_of_ble_eq_true rfl) dX2_blocksOf_2 ⟨Nat.zero_le _, Nat.zero_le _⟩ (fun H locs hG => ?_)
  refine lv_iconst (v := 2) hx hb dX2_blocksOf_5 (by decide) ?_
  refine lv_icmp_ne (tgt := 17) hx hb dX2_blocksOf_6 (by decide) (fun cq_1 => ?_) (fun cq_1 => ?_)
  · have hf := ifF cq_1 hf
    refine lv_iconst (v := 0) hx hb dX2_blocksOf_17 (by decide) ?_
    exact g_iret hr hlk hK hG B rfl hf dX2_blocksOf_18
  · have hf := ifT cq_1 hf
    refine lv_aload_n hx hb dX2_blocksOf_9 rfl (lv_at hl 0 rfl) ?_
    refine lv_iload_n hx hb dX2_blocksOf_10 rfl (lv_at hl 1 rfl) ?_
    refine gc_Vi hA hK hl.1 hG B (c_X2_sizeOf l D cI cJ h0 q1 q2 q3 _ g x1 _ rfl) (cwV 1 hts gX2_blocksOf_X2_sizeOf rfl rfl rfl (by decide +kernel) ⟨by decide, by decide⟩) 0 rfl rfl rfl rfl rfl (Nat.le_of_ble_eq_true rfl) dX2_blocksOf_11 ⟨Nat.zero_le _, Nat.zero_le _⟩ (fun H locs hG => ?_)
    refine lv_goto (tgt := 18) hx hb dX2_blocksOf_14 (by decide) ?_
    exact g_iret hr hlk hK hG B rfl hf dX2_blocksOf_18
def b_X2_usedBlocks_20 (y3_20 : Int32) (y4_20 : Int32) (g : CS) (y1_20 : Int64) (y5_20 : Int32) : Option ((Int64) ⊕ (Int64 × Int32)) := (if y4_20 ≤ y5_20 then some (.inl y1_20) else some (.inr ((y1_20 ||| ((1 : Int64) <<< ((f_X2_placeOf y3_20 y5_20 g).toInt64 &&& 63))), (y5_20 + (1 : Int32)))))
def b_X2_usedBlocks_4  (g : CS) (y1_4 : Int64) (y3_4 : Int32) : Option ((Int64) ⊕ (Int64 × Int32)) := (if (12 : Int32) ≤ y3_4 then some (.inl y1_4) else ((itl (fun a : Int64 × Int32 => b_X2_usedBlocks_20 y3_4 (f_X2_blocksOf y3_4 g) g a.1 a.2) 300 (y1_4, (0 : Int32))).bind (fun ev_3 => some (.inr (ev_3, (y3_4 + (1 : Int32)))))))
def f_X2_usedBlocks  (g : CS) : Option Int64 := ((itl (fun a : Int64 × Int32 => b_X2_usedBlocks_4  g a.1 a.2) 300 ((0 : Int64), (0 : Int32))).bind (fun ev_4 => some ev_4))
set_option maxHeartbeats 4000000 in
set_option maxRecDepth 100000 in
theorem c_X2_usedBlocks (l : Launch) (D : va_G) (cI cJ : ClassId) (h0 q1 q2 q3 sz : Nat) (g : CS)  (r : Int64) (hf : f_X2_usedBlocks  g = some r) : Met l yX2_usedBlocks wsX2_usedBlocks { frames := 3, cells := 0, slots := 0, locals := 64 } (gPc D (gT cI cJ) sz (wC h0 q1 q2 q3 cJ g) [.ref h0]) (gQl D (gT cI cJ) (va_A (wC h0 q1 q2 q3 cJ g) sz) r (wC h0 q1 q2 q3 cJ g)) 0 0 (va_A (wC h0 q1 q2 q3 cJ g) sz) := by
  refine gMet (cc := cX2_usedBlocks) (maxL := 6) (ret := (some .long)) (by decide) rfl ?_ (Nat.le_of_ble_eq_true rfl)
  intro p e0 s m below meth c ls B hr hlk hsz hK hG hl
  have hA : ∀ q : Nat, s.heap.size ≤ q → va_A (wC h0 q1 q2 q3 cJ g) sz q := fun q h => Or.inr (hsz ▸ h)
  have hx := B.1
  have hb := B.2.1
  have hts := B.2.2.2.2
  have hl : lv_has ls 6 [(0, .ref h0)] := hl
  generalize va_A (wC h0 q1 q2 q3 cJ g) sz = A at hA hG ⊢
  have L20 : ∀ (res : (Int64)) (y3_20 : Int32) (y4_20 : Int32), (∀ (H1 : Heap) (locs1 : List Loc) (ls1 : Array Slot) (e : Int64), res = e → gG D A s.heap (wC h0 q1 q2 q3 cJ g) H1 locs1 → lv_has ls1 6 [(0, .ref h0), (1, .long e), (3, .int y3_20)] → W p l e0 { frames := 3, cells := 0, slots := 0, locals := 64 } s m ([.ref h0] : List Value).toArray below meth c H1 locs1 0 0 (MQ below (gQl D (gT cI cJ) A r (wC h0 q1 q2 q3 cJ g)) ([.ref h0] : List Value).toArray s 0 0 A) (F0 m 45 ls1 [])) → ∀ (n : Nat) (y1_20 : Int64) (y5_20 : Int32) (H : Heap) (locs : List Loc) (ls : Array Slot), gG D A s.heap (wC h0 q1 q2 q3 cJ g) H locs → lv_has ls 6 [(0, .ref h0), (1, .long y1_20), (3, .int y3_20), (4, .int y4_20), (5, .int y5_20)] → itl (fun a : Int64 × Int32 => b_X2_usedBlocks_20 y3_20 y4_20 g a.1 a.2) n (y1_20, y5_20) = some res → W p l e0 { frames := 3, cells := 0, slots := 0, locals := 64 } s m ([.ref h0] : List Value).toArray below meth c H locs 0 0 (MQ below (gQl D (gT cI cJ) A r (wC h0 q1 q2 q3 cJ g)) ([.ref h0] : List Value).toArray s 0 0 A) (F0 m 20 ls []) := by
    intro res y3_20 y4_20 hKe20 n
    induction n with
    | zero => exact fun y1_20 y5_20 H locs ls hG hl hf => (itl_0 hf).elim
    | succ n ih =>
      intro y1_20 y5_20 H locs ls hG hl hf
      obtain ⟨o, hf, ho20, hn20⟩ := itl_s hf
      have hf : b_X2_usedBlocks_20 y3_20 y4_20 g y1_20 y5_20 = some o := hf
      unfold b_X2_usedBlocks_20 at hf
      refine lv_iload hx hb dX2_usedBlocks_20 (lv_at hl 4 rfl) ?_
      refine lv_iload hx hb dX2_usedBlocks_22 (lv_at hl 3 rfl) ?_
      refine lv_icmp_ge (tgt := 45) hx hb dX2_usedBlocks_24 (by decide) (fun cq_2 => ?_) (fun cq_2 => ?_)
      · have hf := ifT cq_2 hf
        have hres := ho20 _ (Option.some.inj hf).symm
        exact hKe20 _ _ _ y1_20 hres.symm hG (lv_sub hl [0, 1, 2] rfl)
      · have hf := ifF cq_2 hf
        refine lv_lload_n hx hb dX2_usedBlocks_27 rfl (lv_at hl 1 rfl) ?_
        refine lv_lconst (v := 1) hx hb dX2_usedBlocks_28 (by decide) ?_
        refine lv_aload_n hx hb dX2_usedBlocks_29 rfl (lv_at hl 0 rfl) ?_
        refine lv_iload_n hx hb dX2_usedBlocks_30 rfl (lv_at hl 2 rfl) ?_
        refine lv_iload hx hb dX2_usedBlocks_31 (lv_at hl 4 rfl) ?_
        refine gc_Vi hA hK hl.1 hG B (c_X2_placeOf l D cI cJ h0 q1 q2 q3 _ g y3_20 y5_20 _ rfl) (cwV 2 hts gX2_usedBlocks_X2_placeOf rfl rfl rfl (by decide +kernel) ⟨by decide, by decide⟩) 0 rfl rfl rfl rfl rfl (Nat.le_of_ble_eq_true rfl) dX2_usedBlocks_33 ⟨Nat.zero_le _, Nat.zero_le _⟩ (fun H locs hG => ?_)
        refine lv_lshl hx hb dX2_usedBlocks_36 rfl ?_
        refine lv_lor hx hb dX2_usedBlocks_37 ?_
        refine lv_lstore_n (lv' := [(1, .long (y1_20 ||| ((1 : Int64) <<< ((f_X2_placeOf y3_20 y5_20 g).toInt64 &&& 63)))), (0, .ref h0), (3, .int y3_20), (4, .int y4_20), (5, .int y5_20)]) hx hb dX2_usedBlocks_38 rfl hl (by decide) rfl (fun ls hl => ?_)
        refine lv_iinc (v := (y5_20 + (1 : Int32))) (lv' := [(5, .int (y5_20 + (1 : Int32))), (1, .long (y1_20 ||| ((1 : Int64) <<< ((f_X2_placeOf y3_20 y5_20 g).toInt64 &&& 63)))), (0, .ref h0), (3, .int y3_20), (4, .int y4_20)]) hx hb dX2_usedBlocks_39 hl (k := 4) rfl rfl (by decide) rfl (fun ls hl => ?_)
        refine lv_goto (tgt := 20) hx hb dX2_usedBlocks_42 (by decide) ?_
        have hn := hn20 _ (Option.some.inj hf).symm
        exact ih (y1_20 ||| ((1 : Int64) <<< ((f_X2_placeOf y3_20 y5_20 g).toInt64 &&& 63))) (y5_20 + (1 : Int32)) _ _ _ hG (lv_sub hl [2, 1, 3, 4, 0] rfl) hn
  have L4 : ∀ (res : (Int64)) , (∀ (H1 : Heap) (locs1 : List Loc) (ls1 : Array Slot) (e : Int64), res = e → gG D A s.heap (wC h0 q1 q2 q3 cJ g) H1 locs1 → lv_has ls1 6 [(1, .long e)] → W p l e0 { frames := 3, cells := 0, slots := 0, locals := 64 } s m ([.ref h0] : List Value).toArray below meth c H1 locs1 0 0 (MQ below (gQl D (gT cI cJ) A r (wC h0 q1 q2 q3 cJ g)) ([.ref h0] : List Value).toArray s 0 0 A) (F0 m 51 ls1 [])) → ∀ (n : Nat) (y1_4 : Int64) (y3_4 : Int32) (H : Heap) (locs : List Loc) (ls : Array Slot), gG D A s.heap (wC h0 q1 q2 q3 cJ g) H locs → lv_has ls 6 [(0, .ref h0), (1, .long y1_4), (3, .int y3_4)] → itl (fun a : Int64 × Int32 => b_X2_usedBlocks_4  g a.1 a.2) n (y1_4, y3_4) = some res → W p l e0 { frames := 3, cells := 0, slots := 0, locals := 64 } s m ([.ref h0] : List Value).toArray below meth c H locs 0 0 (MQ below (gQl D (gT cI cJ) A r (wC h0 q1 q2 q3 cJ g)) ([.ref h0] : List Value).toArray s 0 0 A) (F0 m 4 ls []) := by
    intro res  hKe4 n
    induction n with
    | zero => exact fun y1_4 y3_4 H locs ls hG hl hf => (itl_0 hf).elim
    | succ n ih =>
      intro y1_4 y3_4 H locs ls hG hl hf
      obtain ⟨o, hf, ho4, hn4⟩ := itl_s hf
      have hf : b_X2_usedBlocks_4  g y1_4 y3_4 = some o := hf
      unfold b_X2_usedBlocks_4 at hf
      refine lv_iload_n hx hb dX2_usedBlocks_4 rfl (lv_at hl 2 rfl) ?_
      refine lv_bipush (v := 12) hx hb dX2_usedBlocks_5 (by decide) ?_
      refine lv_icmp_ge (tgt := 51) hx hb dX2_usedBlocks_7 (by decide) (fun cq_1 => ?_) (fun cq_1 => ?_)
      · have hf := ifT cq_1 hf
        have hres := ho4 _ (Option.some.inj hf).symm
        exact hKe4 _ _ _ y1_4 hres.symm hG (lv_sub hl [1] rfl)
      · have hf := ifF cq_1 hf
        refine lv_aload_n hx hb dX2_usedBlocks_10 rfl (lv_at hl 0 rfl) ?_
        refine lv_iload_n hx hb dX2_usedBlocks_11 rfl (lv_at hl 2 rfl) ?_
        refine gc_Vi hA hK hl.1 hG B (c_X2_blocksOf l D cI cJ h0 q1 q2 q3 _ g y3_4 _ rfl) (cwV 1 hts gX2_usedBlocks_X2_blocksOf rfl rfl rfl (by decide +kernel) ⟨by decide, by decide⟩) 0 rfl rfl rfl rfl rfl (Nat.le_of_ble_eq_true rfl) dX2_usedBlocks_12 ⟨Nat.zero_le _, Nat.zero_le _⟩ (fun H locs hG => ?_)
        refine lv_istore (lv' := [(4, .int (f_X2_blocksOf y3_4 g)), (0, .ref h0), (1, .long y1_4), (3, .int y3_4)]) hx hb dX2_usedBlocks_15 hl (by decide) rfl (fun ls hl => ?_)
        refine lv_iconst (v := 0) hx hb dX2_usedBlocks_17 (by decide) ?_
        refine lv_istore (lv' := [(5, .int (0 : Int32)), (4, .int (f_X2_blocksOf y3_4 g)), (0, .ref h0), (1, .long y1_4), (3, .int y3_4)]) hx hb dX2_usedBlocks_18 hl (by decide) rfl (fun ls hl => ?_)
        obtain ⟨zv_3, hizv_3, hf⟩ := ob hf
        refine L20 zv_3 y3_4 (f_X2_blocksOf y3_4 g) (fun H locs ls ev_3 hres hG hl => ?_) 300 y1_4 (0 : Int32) _ _ _ hG (lv_sub hl [2, 3, 4, 1, 0] rfl) hizv_3
        have hres := hres.symm
        subst hres
        refine lv_iinc (v := (y3_4 + (1 : Int32))) (lv' := [(3, .int (y3_4 + (1 : Int32))), (0, .ref h0), (1, .long ev_3)]) hx hb dX2_usedBlocks_45 hl (k := 2) rfl rfl (by decide) rfl (fun ls hl => ?_)
        refine lv_goto (tgt := 4) hx hb dX2_usedBlocks_48 (by decide) ?_
        have hn := hn4 _ (Option.some.inj hf).symm
        exact ih ev_3 (y3_4 + (1 : Int32)) _ _ _ hG (lv_sub hl [1, 2, 0] rfl) hn
  unfold f_X2_usedBlocks at hf
  refine lv_lconst (v := 0) hx hb dX2_usedBlocks_0 (by decide) ?_
  refine lv_lstore_n (lv' := [(1, .long (0 : Int64)), (0, .ref h0)]) hx hb dX2_usedBlocks_1 rfl hl (by decide) rfl (fun ls hl => ?_)
  refine lv_iconst (v := 0) hx hb dX2_usedBlocks_2 (by decide) ?_
  refine lv_istore_n (lv' := [(3, .int (0 : Int32)), (1, .long (0 : Int64)), (0, .ref h0)]) hx hb dX2_usedBlocks_3 rfl hl (by decide) rfl (fun ls hl => ?_)
  obtain ⟨zv_4, hizv_4, hf⟩ := ob hf
  refine L4 zv_4  (fun H locs ls ev_4 hres hG hl => ?_) 300 (0 : Int64) (0 : Int32) _ _ _ hG (lv_sub hl [2, 1, 0] rfl) hizv_4
  have hres := hres.symm
  subst hres
  refine lv_lload_n hx hb dX2_usedBlocks_51 rfl (lv_at hl 0 rfl) ?_
  have hf := Option.some.inj hf
  exact g_lret hr hlk hK hG B hf dX2_usedBlocks_52
def f_X2_isUsed (x0 : Int64) (x2 : Int32) : Int32 := (if (lg_cmp ((x0 >>> (x2.toInt64 &&& 63)) &&& (1 : Int64)) (1 : Int64)) = (0 : Int32) then (1 : Int32) else (0 : Int32))
set_option maxHeartbeats 4000000 in
set_option maxRecDepth 100000 in
theorem c_X2_isUsed (l : Launch) (D : va_G) (tys : List (ClassId × FieldType)) (sz : Nat) (w : va_W) (x0 : Int64) (x2 : Int32) (r : Int32) (hf : f_X2_isUsed x0 x2 = r) : Met l yX2_isUsed wsX2_isUsed { frames := 0, cells := 0, slots := 0, locals := 0 } (gPc D tys sz w [.long x0, .int x2]) (gQi D tys (va_A w sz) r w) 0 0 (va_A w sz) := by
  refine gMet (cc := cX2_isUsed) (maxL := 3) (ret := (some .boolean)) (by decide) rfl ?_ (Nat.le_of_ble_eq_true rfl)
  intro p e0 s m below meth c ls B hr hlk hsz hK hG hl
  have hA : ∀ q : Nat, s.heap.size ≤ q → va_A w sz q := fun q h => Or.inr (hsz ▸ h)
  have hx := B.1
  have hb := B.2.1
  have hts := B.2.2.2.2
  have hl : lv_has ls 3 [(0, .long x0), (2, .int x2)] := hl
  generalize va_A w sz = A at hA hG ⊢
  unfold f_X2_isUsed at hf
  refine lv_lload_n hx hb dX2_isUsed_0 rfl (lv_at hl 0 rfl) ?_
  refine lv_iload_n hx hb dX2_isUsed_1 rfl (lv_at hl 1 rfl) ?_
  refine lv_lshr hx hb dX2_isUsed_2 rfl ?_
  refine lv_lconst (v := 1) hx hb dX2_isUsed_3 (by decide) ?_
  refine lv_land hx hb dX2_isUsed_4 ?_
  refine lv_lconst (v := 1) hx hb dX2_isUsed_5 (by decide) ?_
  refine W.lcmp hx hb dX2_isUsed_6 ?_
  refine lv_if_ne (tgt := 14) hx hb dX2_isUsed_7 (by decide) (fun cq_1 => ?_) (fun cq_1 => ?_)
  · have hf := ifF cq_1 hf
    refine lv_iconst (v := 0) hx hb dX2_isUsed_14 (by decide) ?_
    exact g_iret hr hlk hK hG B rfl hf dX2_isUsed_15
  · have hf := ifT cq_1 hf
    refine lv_iconst (v := 1) hx hb dX2_isUsed_10 (by decide) ?_
    refine lv_goto (tgt := 15) hx hb dX2_isUsed_11 (by decide) ?_
    exact g_iret hr hlk hK hG B rfl hf dX2_isUsed_15
def b_X2_leastFree_2 (y0_2 : Int64) (y2_2 : Int32) : Option (((Int32) ⊕ (Unit)) ⊕ (Int32)) := (if (40 : Int32) ≤ y2_2 then some (.inl (.inr ())) else (if (f_X2_isUsed y0_2 y2_2) = (0 : Int32) then some (.inl (.inl y2_2)) else some (.inr (y2_2 + (1 : Int32)))))
def f_X2_leastFree (x0 : Int64) : Option Int32 := ((itl (fun a : Int32 => b_X2_leastFree_2 x0 a) 300 (0 : Int32)).bind (fun zv_3 => Sum.elim (fun v => some v) (fun ev_3 => some (-3 : Int32)) zv_3))
set_option maxHeartbeats 4000000 in
set_option maxRecDepth 100000 in
theorem c_X2_leastFree (l : Launch) (D : va_G) (tys : List (ClassId × FieldType)) (sz : Nat) (w : va_W) (x0 : Int64) (r : Int32) (hf : f_X2_leastFree x0 = some r) : Met l yX2_leastFree wsX2_leastFree { frames := 1, cells := 0, slots := 0, locals := 22 } (gPc D tys sz w [.long x0]) (gQi D tys (va_A w sz) r w) 0 0 (va_A w sz) := by
  refine gMet (cc := cX2_leastFree) (maxL := 3) (ret := (some .int)) (by decide) rfl ?_ (Nat.le_of_ble_eq_true rfl)
  intro p e0 s m below meth c ls B hr hlk hsz hK hG hl
  have hA : ∀ q : Nat, s.heap.size ≤ q → va_A w sz q := fun q h => Or.inr (hsz ▸ h)
  have hx := B.1
  have hb := B.2.1
  have hts := B.2.2.2.2
  have hl : lv_has ls 3 [(0, .long x0)] := hl
  generalize va_A w sz = A at hA hG ⊢
  have L2 : ∀ (res : ((Int32) ⊕ (Unit))) (y0_2 : Int64), (∀ v, res = .inl v → v = r) → (∀ (H1 : Heap) (locs1 : List Loc) (ls1 : Array Slot) (e : Unit), res = .inr e → gG D A s.heap w H1 locs1 → lv_has ls1 3 [] → W p l e0 { frames := 1, cells := 0, slots := 0, locals := 22 } s m ([.long x0] : List Value).toArray below meth c H1 locs1 0 0 (MQ below (gQi D tys A r w) ([.long x0] : List Value).toArray s 0 0 A) (F0 m 24 ls1 [])) → ∀ (n : Nat) (y2_2 : Int32) (H : Heap) (locs : List Loc) (ls : Array Slot), gG D A s.heap w H locs → lv_has ls 3 [(0, .long y0_2), (2, .int y2_2)] → itl (fun a : Int32 => b_X2_leastFree_2 y0_2 a) n y2_2 = some res → W p l e0 { frames := 1, cells := 0, slots := 0, locals := 22 } s m ([.long x0] : List Value).toArray below meth c H locs 0 0 (MQ below (gQi D tys A r w) ([.long x0] : List Value).toArray s 0 0 A) (F0 m 2 ls []) := by
    intro res y0_2 hKr2 hKe2 n
    induction n with
    | zero => exact fun y2_2 H locs ls hG hl hf => (itl_0 hf).elim
    | succ n ih =>
      intro y2_2 H locs ls hG hl hf
      obtain ⟨o, hf, ho2, hn2⟩ := itl_s hf
      have hf : b_X2_leastFree_2 y0_2 y2_2 = some o := hf
      unfold b_X2_leastFree_2 at hf
      refine lv_iload_n hx hb dX2_leastFree_2 rfl (lv_at hl 1 rfl) ?_
      refine lv_bipush (v := 40) hx hb dX2_leastFree_3 (by decide) ?_
      refine lv_icmp_ge (tgt := 24) hx hb dX2_leastFree_5 (by decide) (fun cq_1 => ?_) (fun cq_1 => ?_)
      · have hf := ifT cq_1 hf
        have hres := ho2 _ (Option.some.inj hf).symm
        exact hKe2 _ _ _ () hres.symm hG (lv_sub hl [] rfl)
      · have hf := ifF cq_1 hf
        refine lv_lload_n hx hb dX2_leastFree_8 rfl (lv_at hl 0 rfl) ?_
        refine lv_iload_n hx hb dX2_leastFree_9 rfl (lv_at hl 1 rfl) ?_
        refine gc_Si hA hK hl.1 hG B (c_X2_isUsed l D tys _ w y0_2 y2_2 _ rfl) (va_cwS 2 hts gX2_leastFree_X2_isUsed rfl rfl rfl (by decide +kernel) ⟨by decide, by decide⟩) rfl rfl (Nat.le_of_ble_eq_true rfl) dX2_leastFree_10 ⟨Nat.zero_le _, Nat.zero_le _⟩ (fun H locs hG => ?_)
        refine lv_if_ne (tgt := 18) hx hb dX2_leastFree_13 (by decide) (fun cq_2 => ?_) (fun cq_2 => ?_)
        · have hf := ifF cq_2 hf
          refine lv_iinc (v := (y2_2 + (1 : Int32))) (lv' := [(2, .int (y2_2 + (1 : Int32))), (0, .long y0_2)]) hx hb dX2_leastFree_18 hl (k := 1) rfl rfl (by decide) rfl (fun ls hl => ?_)
          refine lv_goto (tgt := 2) hx hb dX2_leastFree_21 (by decide) ?_
          have hn := hn2 _ (Option.some.inj hf).symm
          exact ih (y2_2 + (1 : Int32)) _ _ _ hG (lv_sub hl [1, 0] rfl) hn
        · have hf := ifT cq_2 hf
          refine lv_iload_n hx hb dX2_leastFree_16 rfl (lv_at hl 1 rfl) ?_
          have hf := hKr2 _ (ho2 _ (Option.some.inj hf).symm).symm
          exact g_iret hr hlk hK hG B rfl hf dX2_leastFree_17
  unfold f_X2_leastFree at hf
  refine lv_iconst (v := 0) hx hb dX2_leastFree_0 (by decide) ?_
  refine lv_istore_n (lv' := [(2, .int (0 : Int32)), (0, .long x0)]) hx hb dX2_leastFree_1 rfl hl (by decide) rfl (fun ls hl => ?_)
  obtain ⟨zv_3, hizv_3, hf⟩ := ob hf
  refine L2 zv_3 x0 (fun v hres => by subst hres; have hf := se_l hf; exact Option.some.inj hf) (fun H locs ls ev_3 hres hG hl => ?_) 300 (0 : Int32) _ _ _ hG (lv_sub hl [1, 0] rfl) hizv_3
  have hres := hres.symm
  subst hres
  have hf := se_r hf
  refine lv_bipush (v := -3) hx hb dX2_leastFree_24 (by decide) ?_
  have hf := Option.some.inj hf
  exact g_iret hr hlk hK hG B rfl hf dX2_leastFree_26
def f_X2_dataAt (x0 : Int32) (x1 : Int32) : Int32 := (((120 : Int32) + (x0 * (3 : Int32))) + x1)
set_option maxHeartbeats 4000000 in
set_option maxRecDepth 100000 in
theorem c_X2_dataAt (l : Launch) (D : va_G) (tys : List (ClassId × FieldType)) (sz : Nat) (w : va_W) (x0 : Int32) (x1 : Int32) (r : Int32) (hf : f_X2_dataAt x0 x1 = r) : Met l yX2_dataAt wsX2_dataAt { frames := 0, cells := 0, slots := 0, locals := 0 } (gPc D tys sz w [.int x0, .int x1]) (gQi D tys (va_A w sz) r w) 0 0 (va_A w sz) := by
  refine gMet (cc := cX2_dataAt) (maxL := 2) (ret := (some .int)) (by decide) rfl ?_ (Nat.le_of_ble_eq_true rfl)
  intro p e0 s m below meth c ls B hr hlk hsz hK hG hl
  have hA : ∀ q : Nat, s.heap.size ≤ q → va_A w sz q := fun q h => Or.inr (hsz ▸ h)
  have hx := B.1
  have hb := B.2.1
  have hts := B.2.2.2.2
  have hl : lv_has ls 2 [(0, .int x0), (1, .int x1)] := hl
  generalize va_A w sz = A at hA hG ⊢
  unfold f_X2_dataAt at hf
  refine lv_bipush (v := 120) hx hb dX2_dataAt_0 (by decide) ?_
  refine lv_iload_n hx hb dX2_dataAt_2 rfl (lv_at hl 0 rfl) ?_
  refine lv_iconst (v := 3) hx hb dX2_dataAt_3 (by decide) ?_
  refine lv_imul hx hb dX2_dataAt_4 ?_
  refine lv_iadd hx hb dX2_dataAt_5 ?_
  refine lv_iload_n hx hb dX2_dataAt_6 rfl (lv_at hl 1 rfl) ?_
  refine lv_iadd hx hb dX2_dataAt_7 ?_
  exact g_iret hr hlk hK hG B rfl hf dX2_dataAt_8
