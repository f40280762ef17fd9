def b_X2_directoryAbove_2 (y1_2 : Int32) (g : CS) (y2_2 : Int32) : Option (((Int32) ⊕ (Unit)) ⊕ (Int32)) := (if (12 : Int32) ≤ y2_2 then some (.inl (.inr ())) else (if (f_X2_kindOf y2_2 g) = (1 : Int32) then ((f_X2_hasEntryOf y2_2 y1_2 g).bind (fun zv_3 => (if zv_3 = (0 : Int32) then some (.inr (y2_2 + (1 : Int32))) else some (.inl (.inl y2_2))))) else some (.inr (y2_2 + (1 : Int32)))))
def f_X2_directoryAbove (x1 : Int32) (g : CS) : Option Int32 := ((itl (fun a : Int32 => b_X2_directoryAbove_2 x1 g a) 300 (0 : Int32)).bind (fun zv_5 => Sum.elim (fun v => some v) (fun ev_5 => some (-3 : Int32)) zv_5))
set_option maxHeartbeats 4000000 in
set_option maxRecDepth 100000 in
theorem c_X2_directoryAbove (l : Launch) (D : va_G) (cI cJ : ClassId) (h0 q1 q2 q3 sz : Nat) (g : CS) (x1 : Int32) (r : Int32) (hf : f_X2_directoryAbove x1 g = some r) : Met l yX2_directoryAbove wsX2_directoryAbove { frames := 4, cells := 0, slots := 0, locals := 88 } (gPc D (gT cI cJ) sz (wC h0 q1 q2 q3 cJ g) [.ref h0, .int x1]) (gQi D (gT cI cJ) (va_A (wC h0 q1 q2 q3 cJ g) sz) r (wC h0 q1 q2 q3 cJ g)) 0 0 (va_A (wC h0 q1 q2 q3 cJ g) sz) := by
  refine gMet (cc := cX2_directoryAbove) (maxL := 3) (ret := (some .int)) (by decide) rfl ?_ (Nat.le_of_ble_eq_true rfl)
  intro p e0 s m below meth c ls B hr hlk hsz hK hG hl
  have hA : ∀ q : Nat, s.heap.size ≤ q → va_A (wC h0 q1 q2 q3 cJ g) sz q := fun q h => Or.inr (hsz ▸ h)
  have hx := B.1
  have hb := B.2.1
  have hts := B.2.2.2.2
  have hl : lv_has ls 3 [(0, .ref h0), (1, .int x1)] := hl
  generalize va_A (wC h0 q1 q2 q3 cJ g) sz = A at hA hG ⊢
  have L2 : ∀ (res : ((Int32) ⊕ (Unit))) (y1_2 : Int32), (∀ v, res = .inl v → v = r) → (∀ (H1 : Heap) (locs1 : List Loc) (ls1 : Array Slot) (e : Unit), res = .inr e → gG D A s.heap (wC h0 q1 q2 q3 cJ g) H1 locs1 → lv_has ls1 3 [] → W p l e0 { frames := 4, cells := 0, slots := 0, locals := 88 } s m ([.ref h0, .int x1] : List Value).toArray below meth c H1 locs1 0 0 (MQ below (gQi D (gT cI cJ) A r (wC h0 q1 q2 q3 cJ g)) ([.ref h0, .int x1] : List Value).toArray s 0 0 A) (F0 m 34 ls1 [])) → ∀ (n : Nat) (y2_2 : Int32) (H : Heap) (locs : List Loc) (ls : Array Slot), gG D A s.heap (wC h0 q1 q2 q3 cJ g) H locs → lv_has ls 3 [(0, .ref h0), (1, .int y1_2), (2, .int y2_2)] → itl (fun a : Int32 => b_X2_directoryAbove_2 y1_2 g a) n y2_2 = some res → W p l e0 { frames := 4, cells := 0, slots := 0, locals := 88 } s m ([.ref h0, .int x1] : List Value).toArray below meth c H locs 0 0 (MQ below (gQi D (gT cI cJ) A r (wC h0 q1 q2 q3 cJ g)) ([.ref h0, .int x1] : List Value).toArray s 0 0 A) (F0 m 2 ls []) := by
    intro res y1_2 hKr2 hKe2 n
    induction n with
    | zero => exact fun y2_2 H locs ls hG hl hf => (itl_0 hf).elim
    | succ n ih =>
      intro y2_2 H locs ls hG hl hf
      obtain ⟨o, hf, ho2, hn2⟩ := itl_s hf
      have hf : b_X2_directoryAbove_2 y1_2 g y2_2 = some o := hf
      unfold b_X2_directoryAbove_2 at hf
      refine lv_iload_n hx hb dX2_directoryAbove_2 rfl (lv_at hl 2 rfl) ?_
      refine lv_bipush (v := 12) hx hb dX2_directoryAbove_3 (by decide) ?_
      refine lv_icmp_ge (tgt := 34) hx hb dX2_directoryAbove_5 (by decide) (fun cq_1 => ?_) (fun cq_1 => ?_)
      · have hf := ifT cq_1 hf
        have hres := ho2 _ (Option.some.inj hf).symm
        exact hKe2 _ _ _ () hres.symm hG (lv_sub hl [] rfl)
      · have hf := ifF cq_1 hf
        refine lv_aload_n hx hb dX2_directoryAbove_8 rfl (lv_at hl 0 rfl) ?_
        refine lv_iload_n hx hb dX2_directoryAbove_9 rfl (lv_at hl 2 rfl) ?_
        refine gc_Vi hA hK hl.1 hG B (c_X2_kindOf l D cI cJ h0 q1 q2 q3 _ g y2_2 _ rfl) (cwV 1 hts gX2_directoryAbove_X2_kindOf rfl rfl rfl (by decide +kernel) ⟨by decide, by decide⟩) 0 rfl rfl rfl rfl rfl (Nat.le_of_ble_eq_true rfl) dX2_directoryAbove_10 ⟨Nat.zero_le _, Nat.zero_le _⟩ (fun H locs hG => ?_)
        refine lv_iconst (v := 1) hx hb dX2_directoryAbove_13 (by decide) ?_
        refine lv_icmp_ne (tgt := 28) hx hb dX2_directoryAbove_14 (by decide) (fun cq_2 => ?_) (fun cq_2 => ?_)
        · have hf := ifF cq_2 hf
          refine lv_iinc (v := (y2_2 + (1 : Int32))) (lv' := [(2, .int (y2_2 + (1 : Int32))), (0, .ref h0), (1, .int y1_2)]) hx hb dX2_directoryAbove_28 hl (k := 2) rfl rfl (by decide) rfl (fun ls hl => ?_)
          refine lv_goto (tgt := 2) hx hb dX2_directoryAbove_31 (by decide) ?_
          have hn := hn2 _ (Option.some.inj hf).symm
          exact ih (y2_2 + (1 : Int32)) _ _ _ hG (lv_sub hl [1, 2, 0] rfl) hn
        · have hf := ifT cq_2 hf
          refine lv_aload_n hx hb dX2_directoryAbove_17 rfl (lv_at hl 0 rfl) ?_
          refine lv_iload_n hx hb dX2_directoryAbove_18 rfl (lv_at hl 2 rfl) ?_
          refine lv_iload_n hx hb dX2_directoryAbove_19 rfl (lv_at hl 1 rfl) ?_
          obtain ⟨zv_3, hqzv_3, hf⟩ := ob hf
          refine gc_Vi hA hK hl.1 hG B (c_X2_hasEntryOf l D cI cJ h0 q1 q2 q3 _ g y2_2 y1_2 _ hqzv_3) (cwV 2 hts gX2_directoryAbove_X2_hasEntryOf rfl rfl rfl (by decide +kernel) ⟨by decide, by decide⟩) 0 rfl rfl rfl rfl rfl (Nat.le_of_ble_eq_true rfl) dX2_directoryAbove_20 ⟨Nat.zero_le _, Nat.zero_le _⟩ (fun H locs hG => ?_)
          refine lv_if_eq (tgt := 28) hx hb dX2_directoryAbove_23 (by decide) (fun cq_4 => ?_) (fun cq_4 => ?_)
          · have hf := ifT cq_4 hf
            refine lv_iinc (v := (y2_2 + (1 : Int32))) (lv' := [(2, .int (y2_2 + (1 : Int32))), (0, .ref h0), (1, .int y1_2)]) hx hb dX2_directoryAbove_28 hl (k := 2) rfl rfl (by decide) rfl (fun ls hl => ?_)
            refine lv_goto (tgt := 2) hx hb dX2_directoryAbove_31 (by decide) ?_
            have hn := hn2 _ (Option.some.inj hf).symm
            exact ih (y2_2 + (1 : Int32)) _ _ _ hG (lv_sub hl [1, 2, 0] rfl) hn
          · have hf := ifF cq_4 hf
            refine lv_iload_n hx hb dX2_directoryAbove_26 rfl (lv_at hl 2 rfl) ?_
            have hf := hKr2 _ (ho2 _ (Option.some.inj hf).symm).symm
            exact g_iret hr hlk hK hG B rfl hf dX2_directoryAbove_27
  unfold f_X2_directoryAbove at hf
  refine lv_iconst (v := 0) hx hb dX2_directoryAbove_0 (by decide) ?_
  refine lv_istore_n (lv' := [(2, .int (0 : Int32)), (0, .ref h0), (1, .int x1)]) hx hb dX2_directoryAbove_1 rfl hl (by decide) rfl (fun ls hl => ?_)
  obtain ⟨zv_5, hizv_5, hf⟩ := ob hf
  refine L2 zv_5 x1 (fun v hres => by subst hres; have hf := se_l hf; exact Option.some.inj hf) (fun H locs ls ev_5 hres hG hl => ?_) 300 (0 : Int32) _ _ _ hG (lv_sub hl [1, 2, 0] rfl) hizv_5
  have hres := hres.symm
  subst hres
  have hf := se_r hf
  refine lv_bipush (v := -3) hx hb dX2_directoryAbove_34 (by decide) ?_
  have hf := Option.some.inj hf
  exact g_iret hr hlk hK hG B rfl hf dX2_directoryAbove_36
def b_X2_isWithin_5 (y2_5 : Int32) (g : CS) (y3_5 : Int32) (y4_5 : Int32) : Option (((Int32) ⊕ (Unit)) ⊕ (Int32 × Int32)) := (if (12 : Int32) ≤ y4_5 then some (.inl (.inr ())) else (if y3_5 = (-3 : Int32) then some (.inl (.inr ())) else (if y3_5 = y2_5 then some (.inl (.inl (1 : Int32))) else ((f_X2_directoryAbove y3_5 g).bind (fun zv_4 => some (.inr (zv_4, (y4_5 + (1 : Int32)))))))))
def f_X2_isWithin (x1 : Int32) (x2 : Int32) (g : CS) : Option Int32 := ((itl (fun a : Int32 × Int32 => b_X2_isWithin_5 x2 g a.1 a.2) 300 (x1, (0 : Int32))).bind (fun zv_5 => Sum.elim (fun v => some v) (fun ev_5 => some (0 : Int32)) zv_5))
set_option maxHeartbeats 4000000 in
set_option maxRecDepth 100000 in
theorem c_X2_isWithin (l : Launch) (D : va_G) (cI cJ : ClassId) (h0 q1 q2 q3 sz : Nat) (g : CS) (x1 : Int32) (x2 : Int32) (r : Int32) (hf : f_X2_isWithin x1 x2 g = some r) : Met l yX2_isWithin wsX2_isWithin { frames := 5, cells := 0, slots := 0, locals := 110 } (gPc D (gT cI cJ) sz (wC h0 q1 q2 q3 cJ g) [.ref h0, .int x1, .int x2]) (gQi D (gT cI cJ) (va_A (wC h0 q1 q2 q3 cJ g) sz) r (wC h0 q1 q2 q3 cJ g)) 0 0 (va_A (wC h0 q1 q2 q3 cJ g) sz) := by
  refine gMet (cc := cX2_isWithin) (maxL := 5) (ret := (some .boolean)) (by decide) rfl ?_ (Nat.le_of_ble_eq_true rfl)
  intro p e0 s m below meth c ls B hr hlk hsz hK hG hl
  have hA : ∀ q : Nat, s.heap.size ≤ q → va_A (wC h0 q1 q2 q3 cJ g) sz q := fun q h => Or.inr (hsz ▸ h)
  have hx := B.1
  have hb := B.2.1
  have hts := B.2.2.2.2
  have hl : lv_has ls 5 [(0, .ref h0), (1, .int x1), (2, .int x2)] := hl
  generalize va_A (wC h0 q1 q2 q3 cJ g) sz = A at hA hG ⊢
  have L5 : ∀ (res : ((Int32) ⊕ (Unit))) (y2_5 : Int32), (∀ v, res = .inl v → v = r) → (∀ (H1 : Heap) (locs1 : List Loc) (ls1 : Array Slot) (e : Unit), res = .inr e → gG D A s.heap (wC h0 q1 q2 q3 cJ g) H1 locs1 → lv_has ls1 5 [] → W p l e0 { frames := 5, cells := 0, slots := 0, locals := 110 } s m ([.ref h0, .int x1, .int x2] : List Value).toArray below meth c H1 locs1 0 0 (MQ below (gQi D (gT cI cJ) A r (wC h0 q1 q2 q3 cJ g)) ([.ref h0, .int x1, .int x2] : List Value).toArray s 0 0 A) (F0 m 37 ls1 [])) → ∀ (n : Nat) (y3_5 : Int32) (y4_5 : Int32) (H : Heap) (locs : List Loc) (ls : Array Slot), gG D A s.heap (wC h0 q1 q2 q3 cJ g) H locs → lv_has ls 5 [(0, .ref h0), (2, .int y2_5), (3, .int y3_5), (4, .int y4_5)] → itl (fun a : Int32 × Int32 => b_X2_isWithin_5 y2_5 g a.1 a.2) n (y3_5, y4_5) = some res → W p l e0 { frames := 5, cells := 0, slots := 0, locals := 110 } s m ([.ref h0, .int x1, .int x2] : List Value).toArray below meth c H locs 0 0 (MQ below (gQi D (gT cI cJ) A r (wC h0 q1 q2 q3 cJ g)) ([.ref h0, .int x1, .int x2] : List Value).toArray s 0 0 A) (F0 m 5 ls []) := by
    intro res y2_5 hKr5 hKe5 n
    induction n with
    | zero => exact fun y3_5 y4_5 H locs ls hG hl hf => (itl_0 hf).elim
    | succ n ih =>
      intro y3_5 y4_5 H locs ls hG hl hf
      obtain ⟨o, hf, ho5, hn5⟩ := itl_s hf
      have hf : b_X2_isWithin_5 y2_5 g y3_5 y4_5 = some o := hf
      unfold b_X2_isWithin_5 at hf
      refine lv_iload hx hb dX2_isWithin_5 (lv_at hl 3 rfl) ?_
      refine lv_bipush (v := 12) hx hb dX2_isWithin_7 (by decide) ?_
      refine lv_icmp_ge (tgt := 37) hx hb dX2_isWithin_9 (by decide) (fun cq_1 => ?_) (fun cq_1 => ?_)
      · have hf := ifT cq_1 hf
        have hres := ho5 _ (Option.some.inj hf).symm
        exact hKe5 _ _ _ () hres.symm hG (lv_sub hl [] rfl)
      · have hf := ifF cq_1 hf
        refine lv_iload_n hx hb dX2_isWithin_12 rfl (lv_at hl 2 rfl) ?_
        refine lv_bipush (v := -3) hx hb dX2_isWithin_13 (by decide) ?_
        refine lv_icmp_eq (tgt := 37) hx hb dX2_isWithin_15 (by decide) (fun cq_2 => ?_) (fun cq_2 => ?_)
        · have hf := ifT cq_2 hf
          have hres := ho5 _ (Option.some.inj hf).symm
          exact hKe5 _ _ _ () hres.symm hG (lv_sub hl [] rfl)
        · have hf := ifF cq_2 hf
          refine lv_iload_n hx hb dX2_isWithin_18 rfl (lv_at hl 2 rfl) ?_
          refine lv_iload_n hx hb dX2_isWithin_19 rfl (lv_at hl 1 rfl) ?_
          refine lv_icmp_ne (tgt := 25) hx hb dX2_isWithin_20 (by decide) (fun cq_3 => ?_) (fun cq_3 => ?_)
          · have hf := ifF cq_3 hf
            refine lv_aload_n hx hb dX2_isWithin_25 rfl (lv_at hl 0 rfl) ?_
            refine lv_iload_n hx hb dX2_isWithin_26 rfl (lv_at hl 2 rfl) ?_
            obtain ⟨zv_4, hqzv_4, hf⟩ := ob hf
            refine gc_Vi hA hK hl.1 hG B (c_X2_directoryAbove l D cI cJ h0 q1 q2 q3 _ g y3_5 _ hqzv_4) (cwV 1 hts gX2_isWithin_X2_directoryAbove rfl rfl rfl (by decide +kernel) ⟨by decide, by decide⟩) 0 rfl rfl rfl rfl rfl (Nat.le_of_ble_eq_true rfl) dX2_isWithin_27 ⟨Nat.zero_le _, Nat.zero_le _⟩ (fun H locs hG => ?_)
            refine lv_istore_n (lv' := [(3, .int zv_4), (0, .ref h0), (2, .int y2_5), (4, .int y4_5)]) hx hb dX2_isWithin_30 rfl hl (by decide) rfl (fun ls hl => ?_)
            refine lv_iinc (v := (y4_5 + (1 : Int32))) (lv' := [(4, .int (y4_5 + (1 : Int32))), (3, .int zv_4), (0, .ref h0), (2, .int y2_5)]) hx hb dX2_isWithin_31 hl (k := 3) rfl rfl (by decide) rfl (fun ls hl => ?_)
            refine lv_goto (tgt := 5) hx hb dX2_isWithin_34 (by decide) ?_
            have hn := hn5 _ (Option.some.inj hf).symm
            exact ih zv_4 (y4_5 + (1 : Int32)) _ _ _ hG (lv_sub hl [2, 3, 1, 0] rfl) hn
          · have hf := ifT cq_3 hf
            refine lv_iconst (v := 1) hx hb dX2_isWithin_23 (by decide) ?_
            have hf := hKr5 _ (ho5 _ (Option.some.inj hf).symm).symm
            exact g_iret hr hlk hK hG B rfl hf dX2_isWithin_24
  unfold f_X2_isWithin at hf
  refine lv_iload_n hx hb dX2_isWithin_0 rfl (lv_at hl 1 rfl) ?_
  refine lv_istore_n (lv' := [(3, .int x1), (0, .ref h0), (1, .int x1), (2, .int x2)]) hx hb dX2_isWithin_1 rfl hl (by decide) rfl (fun ls hl => ?_)
  refine lv_iconst (v := 0) hx hb dX2_isWithin_2 (by decide) ?_
  refine lv_istore (lv' := [(4, .int (0 : Int32)), (3, .int x1), (0, .ref h0), (1, .int x1), (2, .int x2)]) hx hb dX2_isWithin_3 hl (by decide) rfl (fun ls hl => ?_)
  obtain ⟨zv_5, hizv_5, hf⟩ := ob hf
  refine L5 zv_5 x2 (fun v hres => by subst hres; have hf := se_l hf; exact Option.some.inj hf) (fun H locs ls ev_5 hres hG hl => ?_) 300 x1 (0 : Int32) _ _ _ hG (lv_sub hl [2, 4, 1, 0] rfl) hizv_5
  have hres := hres.symm
  subst hres
  have hf := se_r hf
  refine lv_iconst (v := 0) hx hb dX2_isWithin_37 (by decide) ?_
  have hf := Option.some.inj hf
  exact g_iret hr hlk hK hG B rfl hf dX2_isWithin_38
def f_X2_rename (x1 : Int32) (x2 : Int32) (x3 : Int32) (x4 : Int32) (g : CS) : Option (Int32 × CS) := (if (f_X2_isOfKind x1 (1 : Int32) g) = (0 : Int32) then some ((-1 : Int32), g) else (if (f_X2_isName x2) = (0 : Int32) then some ((-1 : Int32), g) else (if (f_X2_isOfKind x3 (1 : Int32) g) = (0 : Int32) then some ((-1 : Int32), g) else (if (f_X2_isName x4) = (0 : Int32) then some ((-1 : Int32), g) else (if (C_down g) = (0 : Int32) then ((f_X2_placeOfName x1 x2 g).bind (fun zv_6 => (if zv_6 = (-3 : Int32) then some ((-3 : Int32), g) else ((f_X2_placeOfName x3 x4 g).bind (fun zv_8 => (if zv_8 = (-3 : Int32) then ((f_X2_leastPlaceWithoutEntry x3 g).bind (fun zv_10 => (if zv_10 = (-3 : Int32) then some ((-5 : Int32), g) else ((f_X2_isWithin x3 (f_X2_inodeOfEntry (f_X2_placeOf x1 zv_6 g)) g).bind (fun zv_12 => (if zv_12 = (0 : Int32) then some ((f_X2_answerOrDown (f_X2_inodeOfEntry (f_X2_placeOf x1 zv_6 g)) (f_X0_write (f_X2_placeAt x1 zv_6) (0 : Int64) (f_X0_write (f_X2_placeAt x3 zv_10) (f_X2_entryOf (f_X2_inodeOfEntry (f_X2_placeOf x1 zv_6 g)) x4).toInt64 g))), (f_X0_write (f_X2_placeAt x1 zv_6) (0 : Int64) (f_X0_write (f_X2_placeAt x3 zv_10) (f_X2_entryOf (f_X2_inodeOfEntry (f_X2_placeOf x1 zv_6 g)) x4).toInt64 g))) else some ((-6 : Int32), g))))))) else some ((-4 : Int32), g))))))) else some ((-2 : Int32), g))))))
set_option maxHeartbeats 4000000 in
set_option maxRecDepth 100000 in
theorem c_X2_rename (l : Launch) (D : va_G) (cI cJ : ClassId) (h0 q1 q2 q3 sz : Nat) (g : CS) (x1 : Int32) (x2 : Int32) (x3 : Int32) (x4 : Int32) (r : Int32) (g1 : CS) (hf : f_X2_rename x1 x2 x3 x4 g = some (r, g1)) : Met l yX2_rename wsX2_rename { frames := 6, cells := 0, slots := 0, locals := 134 } (gPc D (gT cI cJ) sz (wC h0 q1 q2 q3 cJ g) [.ref h0, .int x1, .int x2, .int x3, .int x4]) (gQi D (gT cI cJ) (va_A (wC h0 q1 q2 q3 cJ g) sz) r (wC h0 q1 q2 q3 cJ g1)) 0 0 (va_A (wC h0 q1 q2 q3 cJ g) sz) := by
  refine gMet (cc := cX2_rename) (maxL := 8) (ret := (some .int)) (by decide) rfl ?_ (Nat.le_of_ble_eq_true rfl)
  intro p e0 s m below meth c ls B hr hlk hsz hK hG hl
  have hA : ∀ q : Nat, s.heap.size ≤ q → va_A (wC h0 q1 q2 q3 cJ g) sz q := fun q h => Or.inr (hsz ▸ h)
  have hx := B.1
  have hb := B.2.1
  have hts := B.2.2.2.2
  have hl : lv_has ls 8 [(0, .ref h0), (1, .int x1), (2, .int x2), (3, .int x3), (4, .int x4)] := hl
  generalize va_A (wC h0 q1 q2 q3 cJ g) sz = A at hA hG ⊢
  have hinX0 : ∀ x ∈ wsX00, x ∈ wsX2_rename := by decide +kernel
  have hinX2 : ∀ x ∈ wsX20, x ∈ wsX2_rename := by decide +kernel
  have m_12 : Cond.fieldLink RX2 12 "BlockMover" "disk" "LBlockMover$Disk;" ∈ wsX2_rename := by decide +kernel
  have m_31 : Cond.fieldLink RX2 31 "BlockMover$Disk" "down" "Z" ∈ wsX2_rename := by decide +kernel
  unfold f_X2_rename at hf
  refine lv_aload_n hx hb dX2_rename_0 rfl (lv_at hl 0 rfl) ?_
  refine lv_iload_n hx hb dX2_rename_1 rfl (lv_at hl 1 rfl) ?_
  refine lv_iconst (v := 1) hx hb dX2_rename_2 (by decide) ?_
  refine gc_Vi hA hK hl.1 hG B (c_X2_isOfKind l D cI cJ h0 q1 q2 q3 _ g x1 (1 : Int32) _ rfl) (cwV 2 hts gX2_rename_X2_isOfKind rfl rfl rfl (by decide +kernel) ⟨by decide, by decide⟩) 0 rfl rfl rfl rfl rfl (Nat.le_of_ble_eq_true rfl) dX2_rename_3 ⟨Nat.zero_le _, Nat.zero_le _⟩ (fun H locs hG => ?_)
  refine lv_if_eq (tgt := 33) hx hb dX2_rename_6 (by decide) (fun cq_1 => ?_) (fun cq_1 => ?_)
  · have hf := ifT cq_1 hf
    refine lv_iconst (v := -1) hx hb dX2_rename_33 (by decide) ?_
    have hf := Option.some.inj hf
    obtain ⟨e1, e2⟩ := Prod.mk.inj hf
    subst e2
    exact g_iret hr hlk hK hG B rfl e1 dX2_rename_34
  · have hf := ifF cq_1 hf
    refine lv_iload_n hx hb dX2_rename_9 rfl (lv_at hl 2 rfl) ?_
    refine gc_Si hA hK hl.1 hG B (c_X2_isName l D (gT cI cJ) _ (wC h0 q1 q2 q3 cJ g) x2 _ rfl) (va_cwS 1 hts gX2_rename_X2_isName rfl rfl rfl (by decide +kernel) ⟨by decide, by decide⟩) rfl rfl (Nat.le_of_ble_eq_true rfl) dX2_rename_10 ⟨Nat.zero_le _, Nat.zero_le _⟩ (fun H locs hG => ?_)
    refine lv_if_eq (tgt := 33) hx hb dX2_rename_13 (by decide) (fun cq_2 => ?_) (fun cq_2 => ?_)
    · have hf := ifT cq_2 hf
      refine lv_iconst (v := -1) hx hb dX2_rename_33 (by decide) ?_
      have hf := Option.some.inj hf
      obtain ⟨e1, e2⟩ := Prod.mk.inj hf
      subst e2
      exact g_iret hr hlk hK hG B rfl e1 dX2_rename_34
    · have hf := ifF cq_2 hf
      refine lv_aload_n hx hb dX2_rename_16 rfl (lv_at hl 0 rfl) ?_
      refine lv_iload_n hx hb dX2_rename_17 rfl (lv_at hl 3 rfl) ?_
      refine lv_iconst (v := 1) hx hb dX2_rename_18 (by decide) ?_
      refine gc_Vi hA hK hl.1 hG B (c_X2_isOfKind l D cI cJ h0 q1 q2 q3 _ g x3 (1 : Int32) _ rfl) (cwV 2 hts gX2_rename_X2_isOfKind rfl rfl rfl (by decide +kernel) ⟨by decide, by decide⟩) 0 rfl rfl rfl rfl rfl (Nat.le_of_ble_eq_true rfl) dX2_rename_19 ⟨Nat.zero_le _, Nat.zero_le _⟩ (fun H locs hG => ?_)
      refine lv_if_eq (tgt := 33) hx hb dX2_rename_22 (by decide) (fun cq_3 => ?_) (fun cq_3 => ?_)
      · have hf := ifT cq_3 hf
        refine lv_iconst (v := -1) hx hb dX2_rename_33 (by decide) ?_
        have hf := Option.some.inj hf
        obtain ⟨e1, e2⟩ := Prod.mk.inj hf
        subst e2
        exact g_iret hr hlk hK hG B rfl e1 dX2_rename_34
      · have hf := ifF cq_3 hf
        refine lv_iload hx hb dX2_rename_25 (lv_at hl 4 rfl) ?_
        refine gc_Si hA hK hl.1 hG B (c_X2_isName l D (gT cI cJ) _ (wC h0 q1 q2 q3 cJ g) x4 _ rfl) (va_cwS 1 hts gX2_rename_X2_isName rfl rfl rfl (by decide +kernel) ⟨by decide, by decide⟩) rfl rfl (Nat.le_of_ble_eq_true rfl) dX2_rename_27 ⟨Nat.zero_le _, Nat.zero_le _⟩ (fun H locs hG => ?_)
        refine lv_if_ne (tgt := 35) hx hb dX2_rename_30 (by decide) (fun cq_4 => ?_) (fun cq_4 => ?_)
        · have hf := ifF cq_4 hf
          refine lv_aload_n hx hb dX2_rename_35 rfl (lv_at hl 0 rfl) ?_
          refine g_get hK hG B hinX2 0 rfl rfl 0 (by decide) m_12 rfl dX2_rename_36 ?_
          refine g_get hK hG B hinX0 1 rfl rfl 3 (by decide) m_31 rfl dX2_rename_39 ?_
          refine lv_if_eq (tgt := 48) hx hb dX2_rename_42 (by decide) (fun cq_5 => ?_) (fun cq_5 => ?_)
          · have hf := ifT cq_5 hf
            refine lv_aload_n hx hb dX2_rename_48 rfl (lv_at hl 0 rfl) ?_
            refine lv_iload_n hx hb dX2_rename_49 rfl (lv_at hl 1 rfl) ?_
            refine lv_iload_n hx hb dX2_rename_50 rfl (lv_at hl 2 rfl) ?_
            obtain ⟨zv_6, hqzv_6, hf⟩ := ob hf
            refine gc_Vi hA hK hl.1 hG B (c_X2_placeOfName l D cI cJ h0 q1 q2 q3 _ g x1 x2 _ hqzv_6) (cwV 2 hts gX2_rename_X2_placeOfName rfl rfl rfl (by decide +kernel) ⟨by decide, by decide⟩) 0 rfl rfl rfl rfl rfl (Nat.le_of_ble_eq_true rfl) dX2_rename_51 ⟨Nat.zero_le _, Nat.zero_le _⟩ (fun H locs hG => ?_)
            refine lv_istore (lv' := [(5, .int zv_6), (0, .ref h0), (1, .int x1), (2, .int x2), (3, .int x3), (4, .int x4)]) hx hb dX2_rename_54 hl (by decide) rfl (fun ls hl => ?_)
            refine lv_iload hx hb dX2_rename_56 (lv_at hl 0 rfl) ?_
            refine lv_bipush (v := -3) hx hb dX2_rename_58 (by decide) ?_
            refine lv_icmp_ne (tgt := 66) hx hb dX2_rename_60 (by decide) (fun cq_7 => ?_) (fun cq_7 => ?_)
            · have hf := ifF cq_7 hf
              refine lv_aload_n hx hb dX2_rename_66 rfl (lv_at hl 1 rfl) ?_
              refine lv_iload_n hx hb dX2_rename_67 rfl (lv_at hl 4 rfl) ?_
              refine lv_iload hx hb dX2_rename_68 (lv_at hl 5 rfl) ?_
              obtain ⟨zv_8, hqzv_8, hf⟩ := ob hf
              refine gc_Vi hA hK hl.1 hG B (c_X2_placeOfName l D cI cJ h0 q1 q2 q3 _ g x3 x4 _ hqzv_8) (cwV 2 hts gX2_rename_X2_placeOfName rfl rfl rfl (by decide +kernel) ⟨by decide, by decide⟩) 0 rfl rfl rfl rfl rfl (Nat.le_of_ble_eq_true rfl) dX2_rename_70 ⟨Nat.zero_le _, Nat.zero_le _⟩ (fun H locs hG => ?_)
              refine lv_bipush (v := -3) hx hb dX2_rename_73 (by decide) ?_
              refine lv_icmp_eq (tgt := 81) hx hb dX2_rename_75 (by decide) (fun cq_9 => ?_) (fun cq_9 => ?_)
              · have hf := ifT cq_9 hf
                refine lv_aload_n hx hb dX2_rename_81 rfl (lv_at hl 1 rfl) ?_
                refine lv_iload_n hx hb dX2_rename_82 rfl (lv_at hl 4 rfl) ?_
                obtain ⟨zv_10, hqzv_10, hf⟩ := ob hf
                refine gc_Vi hA hK hl.1 hG B (c_X2_leastPlaceWithoutEntry l D cI cJ h0 q1 q2 q3 _ g x3 _ hqzv_10) (cwV 1 hts gX2_rename_X2_leastPlaceWithoutEntry rfl rfl rfl (by decide +kernel) ⟨by decide, by decide⟩) 0 rfl rfl rfl rfl rfl (Nat.le_of_ble_eq_true rfl) dX2_rename_83 ⟨Nat.zero_le _, Nat.zero_le _⟩ (fun H locs hG => ?_)
                refine lv_istore (lv' := [(6, .int zv_10), (5, .int zv_6), (0, .ref h0), (1, .int x1), (2, .int x2), (3, .int x3), (4, .int x4)]) hx hb dX2_rename_86 hl (by decide) rfl (fun ls hl => ?_)
                refine lv_iload hx hb dX2_rename_88 (lv_at hl 0 rfl) ?_
                refine lv_bipush (v := -3) hx hb dX2_rename_90 (by decide) ?_
                refine lv_icmp_ne (tgt := 98) hx hb dX2_rename_92 (by decide) (fun cq_11 => ?_) (fun cq_11 => ?_)
                · have hf := ifF cq_11 hf
                  refine lv_aload_n hx hb dX2_rename_98 rfl (lv_at hl 2 rfl) ?_
                  refine lv_iload_n hx hb dX2_rename_99 rfl (lv_at hl 3 rfl) ?_
                  refine lv_iload hx hb dX2_rename_100 (lv_at hl 1 rfl) ?_
                  refine gc_Vi hA hK hl.1 hG B (c_X2_placeOf l D cI cJ h0 q1 q2 q3 _ g x1 zv_6 _ rfl) (cwV 2 hts gX2_rename_X2_placeOf rfl rfl rfl (by decide +kernel) ⟨by decide, by decide⟩) 0 rfl rfl rfl rfl rfl (Nat.le_of_ble_eq_true rfl) dX2_rename_102 ⟨Nat.zero_le _, Nat.zero_le _⟩ (fun H locs hG => ?_)
                  refine gc_Si hA hK hl.1 hG B (c_X2_inodeOfEntry l D (gT cI cJ) _ (wC h0 q1 q2 q3 cJ g) (f_X2_placeOf x1 zv_6 g) _ rfl) (va_cwS 1 hts gX2_rename_X2_inodeOfEntry rfl rfl rfl (by decide +kernel) ⟨by decide, by decide⟩) rfl rfl (Nat.le_of_ble_eq_true rfl) dX2_rename_105 ⟨Nat.zero_le _, Nat.zero_le _⟩ (fun H locs hG => ?_)
                  refine lv_istore (lv' := [(7, .int (f_X2_inodeOfEntry (f_X2_placeOf x1 zv_6 g))), (6, .int zv_10), (5, .int zv_6), (0, .ref h0), (1, .int x1), (2, .int x2), (3, .int x3), (4, .int x4)]) hx hb dX2_rename_108 hl (by decide) rfl (fun ls hl => ?_)
                  refine lv_aload_n hx hb dX2_rename_110 rfl (lv_at hl 3 rfl) ?_
                  refine lv_iload_n hx hb dX2_rename_111 rfl (lv_at hl 6 rfl) ?_
                  refine lv_iload hx hb dX2_rename_112 (lv_at hl 0 rfl) ?_
                  obtain ⟨zv_12, hqzv_12, hf⟩ := ob hf
                  refine gc_Vi hA hK hl.1 hG B (c_X2_isWithin l D cI cJ h0 q1 q2 q3 _ g x3 (f_X2_inodeOfEntry (f_X2_placeOf x1 zv_6 g)) _ hqzv_12) (cwV 2 hts gX2_rename_X2_isWithin rfl rfl rfl (by decide +kernel) ⟨by decide, by decide⟩) 0 rfl rfl rfl rfl rfl (Nat.le_of_ble_eq_true rfl) dX2_rename_114 ⟨Nat.zero_le _, Nat.zero_le _⟩ (fun H locs hG => ?_)
                  refine lv_if_eq (tgt := 123) hx hb dX2_rename_117 (by decide) (fun cq_13 => ?_) (fun cq_13 => ?_)
                  · have hf := ifT cq_13 hf
                    refine lv_aload_n hx hb dX2_rename_123 rfl (lv_at hl 3 rfl) ?_
                    refine g_get hK hG B hinX2 0 rfl rfl 0 (by decide) m_12 rfl dX2_rename_124 ?_
                    refine lv_iload_n hx hb dX2_rename_127 rfl (lv_at hl 6 rfl) ?_
                    refine lv_iload hx hb dX2_rename_128 (lv_at hl 1 rfl) ?_
                    refine gc_Si hA hK hl.1 hG B (c_X2_placeAt l D (gT cI cJ) _ (wC h0 q1 q2 q3 cJ g) x3 zv_10 _ rfl) (va_cwS 2 hts gX2_rename_X2_placeAt rfl rfl rfl (by decide +kernel) ⟨by decide, by decide⟩) rfl rfl (Nat.le_of_ble_eq_true rfl) dX2_rename_130 ⟨Nat.zero_le _, Nat.zero_le _⟩ (fun H locs hG => ?_)
                    refine lv_iload hx hb dX2_rename_133 (lv_at hl 0 rfl) ?_
                    refine lv_iload hx hb dX2_rename_135 (lv_at hl 7 rfl) ?_
                    refine gc_Si hA hK hl.1 hG B (c_X2_entryOf l D (gT cI cJ) _ (wC h0 q1 q2 q3 cJ g) (f_X2_inodeOfEntry (f_X2_placeOf x1 zv_6 g)) x4 _ rfl) (va_cwS 2 hts gX2_rename_X2_entryOf rfl rfl rfl (by decide +kernel) ⟨by decide, by decide⟩) rfl rfl (Nat.le_of_ble_eq_true rfl) dX2_rename_137 ⟨Nat.zero_le _, Nat.zero_le _⟩ (fun H locs hG => ?_)
                    refine lv_i2l hx hb dX2_rename_140 rfl ?_
                    refine gc_Vv hA hK hl.1 hG B (c_X0_write l D cI cJ h0 q1 q2 q3 _ g (f_X2_placeAt x3 zv_10) (f_X2_entryOf (f_X2_inodeOfEntry (f_X2_placeOf x1 zv_6 g)) x4).toInt64 _ rfl) (cwV 2 hts gX2_rename_X0_write rfl rfl rfl (by decide +kernel) ⟨by decide, by decide⟩) 1 rfl rfl rfl rfl rfl (Nat.le_of_ble_eq_true rfl) dX2_rename_141 ⟨Nat.zero_le _, Nat.zero_le _⟩ (fun H locs hG => ?_)
                    refine lv_aload_n hx hb dX2_rename_144 rfl (lv_at hl 3 rfl) ?_
                    refine g_get hK hG B hinX2 0 rfl rfl 0 (by decide) m_12 rfl dX2_rename_145 ?_
                    refine lv_iload_n hx hb dX2_rename_148 rfl (lv_at hl 4 rfl) ?_
                    refine lv_iload hx hb dX2_rename_149 (lv_at hl 2 rfl) ?_
                    refine gc_Si hA hK hl.1 hG B (c_X2_placeAt l D (gT cI cJ) _ (wC h0 q1 q2 q3 cJ (f_X0_write (f_X2_placeAt x3 zv_10) (f_X2_entryOf (f_X2_inodeOfEntry (f_X2_placeOf x1 zv_6 g)) x4).toInt64 g)) x1 zv_6 _ rfl) (va_cwS 2 hts gX2_rename_X2_placeAt rfl rfl rfl (by decide +kernel) ⟨by decide, by decide⟩) rfl rfl (Nat.le_of_ble_eq_true rfl) dX2_rename_151 ⟨Nat.zero_le _, Nat.zero_le _⟩ (fun H locs hG => ?_)
                    refine lv_lconst (v := 0) hx hb dX2_rename_154 (by decide) ?_
                    refine gc_Vv hA hK hl.1 hG B (c_X0_write l D cI cJ h0 q1 q2 q3 _ (f_X0_write (f_X2_placeAt x3 zv_10) (f_X2_entryOf (f_X2_inodeOfEntry (f_X2_placeOf x1 zv_6 g)) x4).toInt64 g) (f_X2_placeAt x1 zv_6) (0 : Int64) _ rfl) (cwV 2 hts gX2_rename_X0_write rfl rfl rfl (by decide +kernel) ⟨by decide, by decide⟩) 1 rfl rfl rfl rfl rfl (Nat.le_of_ble_eq_true rfl) dX2_rename_155 ⟨Nat.zero_le _, Nat.zero_le _⟩ (fun H locs hG => ?_)
                    refine lv_aload_n hx hb dX2_rename_158 rfl (lv_at hl 3 rfl) ?_
                    refine lv_iload hx hb dX2_rename_159 (lv_at hl 0 rfl) ?_
                    refine gc_Vi hA hK hl.1 hG B (c_X2_answerOrDown l D cI cJ h0 q1 q2 q3 _ (f_X0_write (f_X2_placeAt x1 zv_6) (0 : Int64) (f_X0_write (f_X2_placeAt x3 zv_10) (f_X2_entryOf (f_X2_inodeOfEntry (f_X2_placeOf x1 zv_6 g)) x4).toInt64 g)) (f_X2_inodeOfEntry (f_X2_placeOf x1 zv_6 g)) _ rfl) (cwV 1 hts gX2_rename_X2_answerOrDown rfl rfl rfl (by decide +kernel) ⟨by decide, by decide⟩) 0 rfl rfl rfl rfl rfl (Nat.le_of_ble_eq_true rfl) dX2_rename_161 ⟨Nat.zero_le _, Nat.zero_le _⟩ (fun H locs hG => ?_)
                    have hf := Option.some.inj hf
                    obtain ⟨e1, e2⟩ := Prod.mk.inj hf
                    subst e2
                    exact g_iret hr hlk hK hG B rfl e1 dX2_rename_164
                  · have hf := ifF cq_13 hf
                    refine lv_bipush (v := -6) hx hb dX2_rename_120 (by decide) ?_
                    have hf := Option.some.inj hf
                    obtain ⟨e1, e2⟩ := Prod.mk.inj hf
                    subst e2
                    exact g_iret hr hlk hK hG B rfl e1 dX2_rename_122
                · have hf := ifT cq_11 hf
                  refine lv_bipush (v := -5) hx hb dX2_rename_95 (by decide) ?_
                  have hf := Option.some.inj hf
                  obtain ⟨e1, e2⟩ := Prod.mk.inj hf
                  subst e2
                  exact g_iret hr hlk hK hG B rfl e1 dX2_rename_97
              · have hf := ifF cq_9 hf
                refine lv_bipush (v := -4) hx hb dX2_rename_78 (by decide) ?_
                have hf := Option.some.inj hf
                obtain ⟨e1, e2⟩ := Prod.mk.inj hf
                subst e2
                exact g_iret hr hlk hK hG B rfl e1 dX2_rename_80
            · have hf := ifT cq_7 hf
              refine lv_bipush (v := -3) hx hb dX2_rename_63 (by decide) ?_
              have hf := Option.some.inj hf
              obtain ⟨e1, e2⟩ := Prod.mk.inj hf
              subst e2
              exact g_iret hr hlk hK hG B rfl e1 dX2_rename_65
          · have hf := ifF cq_5 hf
            refine lv_bipush (v := -2) hx hb dX2_rename_45 (by decide) ?_
            have hf := Option.some.inj hf
            obtain ⟨e1, e2⟩ := Prod.mk.inj hf
            subst e2
            exact g_iret hr hlk hK hG B rfl e1 dX2_rename_47
        · have hf := ifT cq_4 hf
          refine lv_iconst (v := -1) hx hb dX2_rename_33 (by decide) ?_
          have hf := Option.some.inj hf
          obtain ⟨e1, e2⟩ := Prod.mk.inj hf
          subst e2
          exact g_iret hr hlk hK hG B rfl e1 dX2_rename_34
def b_X2_greatestFree_3 (y0_3 : Int64) (y2_3 : Int32) : Option (((Int32) ⊕ (Unit)) ⊕ (Int32)) := (if y2_3 < (0 : Int32) then some (.inl (.inr ())) else (if (f_X2_isUsed y0_3 y2_3) = (0 : Int32) then some (.inl (.inl y2_3)) else some (.inr (y2_3 + (-1 : Int32)))))
def f_X2_greatestFree (x0 : Int64) : Option Int32 := ((itl (fun a : Int32 => b_X2_greatestFree_3 x0 a) 300 (39 : Int32)).bind (fun zv_3 => Sum.elim (fun v => some v) (fun ev_3 => some (-3 : Int32)) zv_3))
set_option maxHeartbeats 4000000 in
set_option maxRecDepth 100000 in
theorem c_X2_greatestFree (l : Launch) (D : va_G) (tys : List (ClassId × FieldType)) (sz : Nat) (w : va_W) (x0 : Int64) (r : Int32) (hf : f_X2_greatestFree x0 = some r) : Met l yX2_greatestFree wsX2_greatestFree { frames := 1, cells := 0, slots := 0, locals := 22 } (gPc D tys sz w [.long x0]) (gQi D tys (va_A w sz) r w) 0 0 (va_A w sz) := by
  refine gMet (cc := cX2_greatestFree) (maxL := 3) (ret := (some .int)) (by decide) rfl ?_ (Nat.le_of_ble_eq_true rfl)
  intro p e0 s m below meth c ls B hr hlk hsz hK hG hl
  have hA : ∀ q : Nat, s.heap.size ≤ q → va_A w sz q := fun q h => Or.inr (hsz ▸ h)
  have hx := B.1
  have hb := B.2.1
  have hts := B.2.2.2.2
  have hl : lv_has ls 3 [(0, .long x0)] := hl
  generalize va_A w sz = A at hA hG ⊢
  have L3 : ∀ (res : ((Int32) ⊕ (Unit))) (y0_3 : Int64), (∀ v, res = .inl v → v = r) → (∀ (H1 : Heap) (locs1 : List Loc) (ls1 : Array Slot) (e : Unit), res = .inr e → gG D A s.heap w H1 locs1 → lv_has ls1 3 [] → W p l e0 { frames := 1, cells := 0, slots := 0, locals := 22 } s m ([.long x0] : List Value).toArray below meth c H1 locs1 0 0 (MQ below (gQi D tys A r w) ([.long x0] : List Value).toArray s 0 0 A) (F0 m 23 ls1 [])) → ∀ (n : Nat) (y2_3 : Int32) (H : Heap) (locs : List Loc) (ls : Array Slot), gG D A s.heap w H locs → lv_has ls 3 [(0, .long y0_3), (2, .int y2_3)] → itl (fun a : Int32 => b_X2_greatestFree_3 y0_3 a) n y2_3 = some res → W p l e0 { frames := 1, cells := 0, slots := 0, locals := 22 } s m ([.long x0] : List Value).toArray below meth c H locs 0 0 (MQ below (gQi D tys A r w) ([.long x0] : List Value).toArray s 0 0 A) (F0 m 3 ls []) := by
    intro res y0_3 hKr3 hKe3 n
    induction n with
    | zero => exact fun y2_3 H locs ls hG hl hf => (itl_0 hf).elim
    | succ n ih =>
      intro y2_3 H locs ls hG hl hf
      obtain ⟨o, hf, ho3, hn3⟩ := itl_s hf
      have hf : b_X2_greatestFree_3 y0_3 y2_3 = some o := hf
      unfold b_X2_greatestFree_3 at hf
      refine lv_iload_n hx hb dX2_greatestFree_3 rfl (lv_at hl 1 rfl) ?_
      refine lv_if_lt (tgt := 23) hx hb dX2_greatestFree_4 (by decide) (fun cq_1 => ?_) (fun cq_1 => ?_)
      · have hf := ifT cq_1 hf
        have hres := ho3 _ (Option.some.inj hf).symm
        exact hKe3 _ _ _ () hres.symm hG (lv_sub hl [] rfl)
      · have hf := ifF cq_1 hf
        refine lv_lload_n hx hb dX2_greatestFree_7 rfl (lv_at hl 0 rfl) ?_
        refine lv_iload_n hx hb dX2_greatestFree_8 rfl (lv_at hl 1 rfl) ?_
        refine gc_Si hA hK hl.1 hG B (c_X2_isUsed l D tys _ w y0_3 y2_3 _ rfl) (va_cwS 2 hts gX2_greatestFree_X2_isUsed rfl rfl rfl (by decide +kernel) ⟨by decide, by decide⟩) rfl rfl (Nat.le_of_ble_eq_true rfl) dX2_greatestFree_9 ⟨Nat.zero_le _, Nat.zero_le _⟩ (fun H locs hG => ?_)
        refine lv_if_ne (tgt := 17) hx hb dX2_greatestFree_12 (by decide) (fun cq_2 => ?_) (fun cq_2 => ?_)
        · have hf := ifF cq_2 hf
          refine lv_iinc (v := (y2_3 + (-1 : Int32))) (lv' := [(2, .int (y2_3 + (-1 : Int32))), (0, .long y0_3)]) hx hb dX2_greatestFree_17 hl (k := 1) rfl rfl (by decide) rfl (fun ls hl => ?_)
          refine lv_goto (tgt := 3) hx hb dX2_greatestFree_20 (by decide) ?_
          have hn := hn3 _ (Option.some.inj hf).symm
          exact ih (y2_3 + (-1 : Int32)) _ _ _ hG (lv_sub hl [1, 0] rfl) hn
        · have hf := ifT cq_2 hf
          refine lv_iload_n hx hb dX2_greatestFree_15 rfl (lv_at hl 1 rfl) ?_
          have hf := hKr3 _ (ho3 _ (Option.some.inj hf).symm).symm
          exact g_iret hr hlk hK hG B rfl hf dX2_greatestFree_16
  unfold f_X2_greatestFree at hf
  refine lv_bipush (v := 39) hx hb dX2_greatestFree_0 (by decide) ?_
  refine lv_istore_n (lv' := [(2, .int (39 : Int32)), (0, .long x0)]) hx hb dX2_greatestFree_2 rfl hl (by decide) rfl (fun ls hl => ?_)
  obtain ⟨zv_3, hizv_3, hf⟩ := ob hf
  refine L3 zv_3 x0 (fun v hres => by subst hres; have hf := se_l hf; exact Option.some.inj hf) (fun H locs ls ev_3 hres hG hl => ?_) 300 (39 : Int32) _ _ _ hG (lv_sub hl [1, 0] rfl) hizv_3
  have hres := hres.symm
  subst hres
  have hf := se_r hf
  refine lv_bipush (v := -3) hx hb dX2_greatestFree_23 (by decide) ?_
  have hf := Option.some.inj hf
  exact g_iret hr hlk hK hG B rfl hf dX2_greatestFree_25
def b_X2_chooseMoveAway_18 (y1_18 : Int32) (y2_18 : Int32) (y3_18 : Int32) (y4_18 : Int32) (y5_18 : Int32) (g18 : CS) : Option ((((Int32 × CS)) ⊕ (CS)) ⊕ (Int32 × CS)) := (if y4_18 ≤ y5_18 then some (.inl (.inr g18)) else (if (f_X2_placeOf y3_18 y5_18 g18) = y1_18 then some (.inl (.inl ((1 : Int32), (f_X1_set y3_18 y5_18 y2_18 g18)))) else some (.inr ((y5_18 + (1 : Int32)), g18))))
def b_X2_chooseMoveAway_2 (y1_2 : Int32) (y2_2 : Int32) (y3_2 : Int32) (g2 : CS) : Option ((((Int32 × CS)) ⊕ (CS)) ⊕ (Int32 × CS)) := (if (12 : Int32) ≤ y3_2 then some (.inl (.inr g2)) else ((itl (fun a : Int32 × CS => b_X2_chooseMoveAway_18 y1_2 y2_2 y3_2 (f_X2_blocksOf y3_2 g2) a.1 a.2) 300 ((0 : Int32), g2)).bind (fun zv_4 => Sum.elim (fun v => some (.inl (.inl v))) (fun ev_4 => some (.inr ((y3_2 + (1 : Int32)), ev_4))) zv_4)))
def f_X2_chooseMoveAway (x1 : Int32) (x2 : Int32) (g : CS) : Option (Int32 × CS) := ((itl (fun a : Int32 × CS => b_X2_chooseMoveAway_2 x1 x2 a.1 a.2) 300 ((0 : Int32), g)).bind (fun zv_5 => Sum.elim (fun v => some v) (fun ev_5 => some ((-3 : Int32), ev_5)) zv_5))
set_option maxHeartbeats 4000000 in
set_option maxRecDepth 100000 in
theorem c_X2_chooseMoveAway (l : Launch) (D : va_G) (cI cJ : ClassId) (h0 q1 q2 q3 sz : Nat) (g : CS) (x1 : Int32) (x2 : Int32) (r : Int32) (g1 : CS) (hf : f_X2_chooseMoveAway x1 x2 g = some (r, g1)) : Met l yX2_chooseMoveAway wsX2_chooseMoveAway { frames := 3, cells := 0, slots := 0, locals := 64 } (gPc D (gT cI cJ) sz (wC h0 q1 q2 q3 cJ g) [.ref h0, .int x1, .int x2]) (gQi D (gT cI cJ) (va_A (wC h0 q1 q2 q3 cJ g) sz) r (wC h0 q1 q2 q3 cJ g1)) 0 0 (va_A (wC h0 q1 q2 q3 cJ g) sz) := by
  refine gMet (cc := cX2_chooseMoveAway) (maxL := 6) (ret := (some .int)) (by decide) rfl ?_ (Nat.le_of_ble_eq_true rfl)
  intro p e0 s m below meth c ls B hr hlk hsz hK hG hl
  have hA : ∀ q : Nat, s.heap.size ≤ q → va_A (wC h0 q1 q2 q3 cJ g) sz q := fun q h => Or.inr (hsz ▸ h)
  have hx := B.1
  have hb := B.2.1
  have hts := B.2.2.2.2
  have hl : lv_has ls 6 [(0, .ref h0), (1, .int x1), (2, .int x2)] := hl
  generalize va_A (wC h0 q1 q2 q3 cJ g) sz = A at hA hG ⊢
  have hinX2 : ∀ x ∈ wsX20, x ∈ wsX2_chooseMoveAway := by decide +kernel
  have m_19 : Cond.fieldLink RX2 19 "BlockMover" "next" "LBlockMover$Plan;" ∈ wsX2_chooseMoveAway := by decide +kernel
  have L18 : ∀ (res : (((Int32 × CS)) ⊕ (CS))) (y1_18 : Int32) (y2_18 : Int32) (y3_18 : Int32) (y4_18 : Int32), (∀ v, res = .inl v → v = (r, g1)) → (∀ (H1 : Heap) (locs1 : List Loc) (ls1 : Array Slot) (e : CS), res = .inr e → gG D A s.heap (wC h0 q1 q2 q3 cJ e) H1 locs1 → lv_has ls1 6 [(0, .ref h0), (1, .int y1_18), (2, .int y2_18), (3, .int y3_18)] → W p l e0 { frames := 3, cells := 0, slots := 0, locals := 64 } s m ([.ref h0, .int x1, .int x2] : List Value).toArray below meth c H1 locs1 0 0 (MQ below (gQi D (gT cI cJ) A r (wC h0 q1 q2 q3 cJ g1)) ([.ref h0, .int x1, .int x2] : List Value).toArray s 0 0 A) (F0 m 55 ls1 [])) → ∀ (n : Nat) (y5_18 : Int32) (g18 : CS) (H : Heap) (locs : List Loc) (ls : Array Slot), gG D A s.heap (wC h0 q1 q2 q3 cJ g18) H locs → lv_has ls 6 [(0, .ref h0), (1, .int y1_18), (2, .int y2_18), (3, .int y3_18), (4, .int y4_18), (5, .int y5_18)] → itl (fun a : Int32 × CS => b_X2_chooseMoveAway_18 y1_18 y2_18 y3_18 y4_18 a.1 a.2) n (y5_18, g18) = some res → W p l e0 { frames := 3, cells := 0, slots := 0, locals := 64 } s m ([.ref h0, .int x1, .int x2] : List Value).toArray below meth c H locs 0 0 (MQ below (gQi D (gT cI cJ) A r (wC h0 q1 q2 q3 cJ g1)) ([.ref h0, .int x1, .int x2] : List Value).toArray s 0 0 A) (F0 m 18 ls []) := by
    intro res y1_18 y2_18 y3_18 y4_18 hKr18 hKe18 n
    induction n with
    | zero => exact fun y5_18 g18 H locs ls hG hl hf => (itl_0 hf).elim
    | succ n ih =>
      intro y5_18 g18 H locs ls hG hl hf
      obtain ⟨o, hf, ho18, hn18⟩ := itl_s hf
      have hf : b_X2_chooseMoveAway_18 y1_18 y2_18 y3_18 y4_18 y5_18 g18 = some o := hf
      unfold b_X2_chooseMoveAway_18 at hf
      refine lv_iload hx hb dX2_chooseMoveAway_18 (lv_at hl 5 rfl) ?_
      refine lv_iload hx hb dX2_chooseMoveAway_20 (lv_at hl 4 rfl) ?_
      refine lv_icmp_ge (tgt := 55) hx hb dX2_chooseMoveAway_22 (by decide) (fun cq_2 => ?_) (fun cq_2 => ?_)
      · have hf := ifT cq_2 hf
        have hres := ho18 _ (Option.some.inj hf).symm
        exact hKe18 _ _ _ g18 hres.symm hG (lv_sub hl [0, 1, 2, 3] rfl)
      · have hf := ifF cq_2 hf
        refine lv_aload_n hx hb dX2_chooseMoveAway_25 rfl (lv_at hl 0 rfl) ?_
        refine lv_iload_n hx hb dX2_chooseMoveAway_26 rfl (lv_at hl 3 rfl) ?_
        refine lv_iload hx hb dX2_chooseMoveAway_27 (lv_at hl 5 rfl) ?_
        refine gc_Vi hA hK hl.1 hG B (c_X2_placeOf l D cI cJ h0 q1 q2 q3 _ g18 y3_18 y5_18 _ rfl) (cwV 2 hts gX2_chooseMoveAway_X2_placeOf rfl rfl rfl (by decide +kernel) ⟨by decide, by decide⟩) 0 rfl rfl rfl rfl rfl (Nat.le_of_ble_eq_true rfl) dX2_chooseMoveAway_29 ⟨Nat.zero_le _, Nat.zero_le _⟩ (fun H locs hG => ?_)
        refine lv_iload_n hx hb dX2_chooseMoveAway_32 rfl (lv_at hl 1 rfl) ?_
        refine lv_icmp_ne (tgt := 49) hx hb dX2_chooseMoveAway_33 (by decide) (fun cq_3 => ?_) (fun cq_3 => ?_)
        · have hf := ifF cq_3 hf
          refine lv_iinc (v := (y5_18 + (1 : Int32))) (lv' := [(5, .int (y5_18 + (1 : Int32))), (0, .ref h0), (1, .int y1_18), (2, .int y2_18), (3, .int y3_18), (4, .int y4_18)]) hx hb dX2_chooseMoveAway_49 hl (k := 5) rfl rfl (by decide) rfl (fun ls hl => ?_)
          refine lv_goto (tgt := 18) hx hb dX2_chooseMoveAway_52 (by decide) ?_
          have hn := hn18 _ (Option.some.inj hf).symm
          exact ih (y5_18 + (1 : Int32)) g18 _ _ _ hG (lv_sub hl [1, 2, 3, 4, 5, 0] rfl) hn
        · have hf := ifT cq_3 hf
          refine lv_aload_n hx hb dX2_chooseMoveAway_36 rfl (lv_at hl 0 rfl) ?_
          refine g_get hK hG B hinX2 0 rfl rfl 1 (by decide) m_19 rfl dX2_chooseMoveAway_37 ?_
          refine lv_iload_n hx hb dX2_chooseMoveAway_40 rfl (lv_at hl 3 rfl) ?_
          refine lv_iload hx hb dX2_chooseMoveAway_41 (lv_at hl 5 rfl) ?_
          refine lv_iload_n hx hb dX2_chooseMoveAway_43 rfl (lv_at hl 2 rfl) ?_
          refine gc_Vv hA hK hl.1 hG B (c_X1_set l D cI cJ h0 q1 q2 q3 _ g18 y3_18 y5_18 y2_18 _ rfl) (cwV 3 hts gX2_chooseMoveAway_X1_set rfl rfl rfl (by decide +kernel) ⟨by decide, by decide⟩) 2 rfl rfl rfl rfl rfl (Nat.le_of_ble_eq_true rfl) dX2_chooseMoveAway_44 ⟨Nat.zero_le _, Nat.zero_le _⟩ (fun H locs hG => ?_)
          refine lv_iconst (v := 1) hx hb dX2_chooseMoveAway_47 (by decide) ?_
          have hf := hKr18 _ (ho18 _ (Option.some.inj hf).symm).symm
          obtain ⟨e1, e2⟩ := Prod.mk.inj hf
          subst e2
          exact g_iret hr hlk hK hG B rfl e1 dX2_chooseMoveAway_48
  have L2 : ∀ (res : (((Int32 × CS)) ⊕ (CS))) (y1_2 : Int32) (y2_2 : Int32), (∀ v, res = .inl v → v = (r, g1)) → (∀ (H1 : Heap) (locs1 : List Loc) (ls1 : Array Slot) (e : CS), res = .inr e → gG D A s.heap (wC h0 q1 q2 q3 cJ e) H1 locs1 → lv_has ls1 6 [] → W p l e0 { frames := 3, cells := 0, slots := 0, locals := 64 } s m ([.ref h0, .int x1, .int x2] : List Value).toArray below meth c H1 locs1 0 0 (MQ below (gQi D (gT cI cJ) A r (wC h0 q1 q2 q3 cJ g1)) ([.ref h0, .int x1, .int x2] : List Value).toArray s 0 0 A) (F0 m 61 ls1 [])) → ∀ (n : Nat) (y3_2 : Int32) (g2 : CS) (H : Heap) (locs : List Loc) (ls : Array Slot), gG D A s.heap (wC h0 q1 q2 q3 cJ g2) H locs → lv_has ls 6 [(0, .ref h0), (1, .int y1_2), (2, .int y2_2), (3, .int y3_2)] → itl (fun a : Int32 × CS => b_X2_chooseMoveAway_2 y1_2 y2_2 a.1 a.2) n (y3_2, g2) = some res → W p l e0 { frames := 3, cells := 0, slots := 0, locals := 64 } s m ([.ref h0, .int x1, .int x2] : List Value).toArray below meth c H locs 0 0 (MQ below (gQi D (gT cI cJ) A r (wC h0 q1 q2 q3 cJ g1)) ([.ref h0, .int x1, .int x2] : List Value).toArray s 0 0 A) (F0 m 2 ls []) := by
    intro res y1_2 y2_2 hKr2 hKe2 n
    induction n with
    | zero => exact fun y3_2 g2 H locs ls hG hl hf => (itl_0 hf).elim
    | succ n ih =>
      intro y3_2 g2 H locs ls hG hl hf
      obtain ⟨o, hf, ho2, hn2⟩ := itl_s hf
      have hf : b_X2_chooseMoveAway_2 y1_2 y2_2 y3_2 g2 = some o := hf
      unfold b_X2_chooseMoveAway_2 at hf
      refine lv_iload_n hx hb dX2_chooseMoveAway_2 rfl (lv_at hl 3 rfl) ?_
      refine lv_bipush (v := 12) hx hb dX2_chooseMoveAway_3 (by decide) ?_
      refine lv_icmp_ge (tgt := 61) hx hb dX2_chooseMoveAway_5 (by decide) (fun cq_1 => ?_) (fun cq_1 => ?_)
      · have hf := ifT cq_1 hf
        have hres := ho2 _ (Option.some.inj hf).symm
        exact hKe2 _ _ _ g2 hres.symm hG (lv_sub hl [] rfl)
      · have hf := ifF cq_1 hf
        refine lv_aload_n hx hb dX2_chooseMoveAway_8 rfl (lv_at hl 0 rfl) ?_
        refine lv_iload_n hx hb dX2_chooseMoveAway_9 rfl (lv_at hl 3 rfl) ?_
        refine gc_Vi hA hK hl.1 hG B (c_X2_blocksOf l D cI cJ h0 q1 q2 q3 _ g2 y3_2 _ rfl) (cwV 1 hts gX2_chooseMoveAway_X2_blocksOf rfl rfl rfl (by decide +kernel) ⟨by decide, by decide⟩) 0 rfl rfl rfl rfl rfl (Nat.le_of_ble_eq_true rfl) dX2_chooseMoveAway_10 ⟨Nat.zero_le _, Nat.zero_le _⟩ (fun H locs hG => ?_)
        refine lv_istore (lv' := [(4, .int (f_X2_blocksOf y3_2 g2)), (0, .ref h0), (1, .int y1_2), (2, .int y2_2), (3, .int y3_2)]) hx hb dX2_chooseMoveAway_13 hl (by decide) rfl (fun ls hl => ?_)
        refine lv_iconst (v := 0) hx hb dX2_chooseMoveAway_15 (by decide) ?_
        refine lv_istore (lv' := [(5, .int (0 : Int32)), (4, .int (f_X2_blocksOf y3_2 g2)), (0, .ref h0), (1, .int y1_2), (2, .int y2_2), (3, .int y3_2)]) hx hb dX2_chooseMoveAway_16 hl (by decide) rfl (fun ls hl => ?_)
        obtain ⟨zv_4, hizv_4, hf⟩ := ob hf
        refine L18 zv_4 y1_2 y2_2 y3_2 (f_X2_blocksOf y3_2 g2) (fun v hres => by subst hres; have hf := se_l hf; exact hKr2 _ (ho2 _ (Option.some.inj hf).symm).symm) (fun H locs ls ev_4 hres hG hl => ?_) 300 (0 : Int32) g2 _ _ _ hG (lv_sub hl [2, 3, 4, 5, 1, 0] rfl) hizv_4
        have hres := hres.symm
        subst hres
        have hf := se_r hf
        refine lv_iinc (v := (y3_2 + (1 : Int32))) (lv' := [(3, .int (y3_2 + (1 : Int32))), (0, .ref h0), (1, .int y1_2), (2, .int y2_2)]) hx hb dX2_chooseMoveAway_55 hl (k := 3) rfl rfl (by decide) rfl (fun ls hl => ?_)
        refine lv_goto (tgt := 2) hx hb dX2_chooseMoveAway_58 (by decide) ?_
        have hn := hn2 _ (Option.some.inj hf).symm
        exact ih (y3_2 + (1 : Int32)) ev_4 _ _ _ hG (lv_sub hl [1, 2, 3, 0] rfl) hn
  unfold f_X2_chooseMoveAway at hf
  refine lv_iconst (v := 0) hx hb dX2_chooseMoveAway_0 (by decide) ?_
  refine lv_istore_n (lv' := [(3, .int (0 : Int32)), (0, .ref h0), (1, .int x1), (2, .int x2)]) hx hb dX2_chooseMoveAway_1 rfl hl (by decide) rfl (fun ls hl => ?_)
  obtain ⟨zv_5, hizv_5, hf⟩ := ob hf
  refine L2 zv_5 x1 x2 (fun v hres => by subst hres; have hf := se_l hf; exact Option.some.inj hf) (fun H locs ls ev_5 hres hG hl => ?_) 300 (0 : Int32) g _ _ _ hG (lv_sub hl [1, 2, 3, 0] rfl) hizv_5
  have hres := hres.symm
  subst hres
  have hf := se_r hf
  refine lv_bipush (v := -3) hx hb dX2_chooseMoveAway_61 (by decide) ?_
  have hf := Option.some.inj hf
  obtain ⟨e1, e2⟩ := Prod.mk.inj hf
  subst e2
  exact g_iret hr hlk hK hG B rfl e1 dX2_chooseMoveAway_63
def f_X2_chooseMove (x1 : Int32) (x2 : Int32) (x3 : Int32) (g : CS) : Option (Int32 × CS) := ((f_X2_usedBlocks  g).bind (fun zv_1 => (if (f_X2_isUsed zv_1 x3) = (0 : Int32) then some ((1 : Int32), (f_X1_set x1 x2 x3 g)) else ((f_X2_greatestFree zv_1).bind (fun zv_3 => (if zv_3 = (-3 : Int32) then some ((-5 : Int32), g) else ((f_X2_chooseMoveAway x3 zv_3 g).bind (fun zv_5 => some (zv_5.1, zv_5.2)))))))))
set_option maxHeartbeats 4000000 in
set_option maxRecDepth 100000 in
theorem c_X2_chooseMove (l : Launch) (D : va_G) (cI cJ : ClassId) (h0 q1 q2 q3 sz : Nat) (g : CS) (x1 : Int32) (x2 : Int32) (x3 : Int32) (r : Int32) (g1 : CS) (hf : f_X2_chooseMove x1 x2 x3 g = some (r, g1)) : Met l yX2_chooseMove wsX2_chooseMove { frames := 4, cells := 0, slots := 0, locals := 89 } (gPc D (gT cI cJ) sz (wC h0 q1 q2 q3 cJ g) [.ref h0, .int x1, .int x2, .int x3]) (gQi D (gT cI cJ) (va_A (wC h0 q1 q2 q3 cJ g) sz) r (wC h0 q1 q2 q3 cJ g1)) 0 0 (va_A (wC h0 q1 q2 q3 cJ g) sz) := by
  refine gMet (cc := cX2_chooseMove) (maxL := 7) (ret := (some .int)) (by decide) rfl ?_ (Nat.le_of_ble_eq_true rfl)
  intro p e0 s m below meth c ls B hr hlk hsz hK hG hl
  have hA : ∀ q : Nat, s.heap.size ≤ q → va_A (wC h0 q1 q2 q3 cJ g) sz q := fun q h => Or.inr (hsz ▸ h)
  have hx := B.1
  have hb := B.2.1
  have hts := B.2.2.2.2
  have hl : lv_has ls 7 [(0, .ref h0), (1, .int x1), (2, .int x2), (3, .int x3)] := hl
  generalize va_A (wC h0 q1 q2 q3 cJ g) sz = A at hA hG ⊢
  have hinX2 : ∀ x ∈ wsX20, x ∈ wsX2_chooseMove := by decide +kernel
  have m_19 : Cond.fieldLink RX2 19 "BlockMover" "next" "LBlockMover$Plan;" ∈ wsX2_chooseMove := by decide +kernel
  unfold f_X2_chooseMove at hf
  refine lv_aload_n hx hb dX2_chooseMove_0 rfl (lv_at hl 0 rfl) ?_
  obtain ⟨zv_1, hqzv_1, hf⟩ := ob hf
  refine gc_Vl hA hK hl.1 hG B (c_X2_usedBlocks l D cI cJ h0 q1 q2 q3 _ g  _ hqzv_1) (cwV 0 hts gX2_chooseMove_X2_usedBlocks rfl rfl rfl (by decide +kernel) ⟨by decide, by decide⟩) 0 rfl rfl rfl rfl rfl (Nat.le_of_ble_eq_true rfl) dX2_chooseMove_1 ⟨Nat.zero_le _, Nat.zero_le _⟩ (fun H locs hG => ?_)
  refine lv_lstore (lv' := [(4, .long zv_1), (0, .ref h0), (1, .int x1), (2, .int x2), (3, .int x3)]) hx hb dX2_chooseMove_4 hl (by decide) rfl (fun ls hl => ?_)
  refine lv_lload hx hb dX2_chooseMove_6 (lv_at hl 0 rfl) ?_
  refine lv_iload_n hx hb dX2_chooseMove_8 rfl (lv_at hl 4 rfl) ?_
  refine gc_Si hA hK hl.1 hG B (c_X2_isUsed l D (gT cI cJ) _ (wC h0 q1 q2 q3 cJ g) zv_1 x3 _ rfl) (va_cwS 2 hts gX2_chooseMove_X2_isUsed rfl rfl rfl (by decide +kernel) ⟨by decide, by decide⟩) rfl rfl (Nat.le_of_ble_eq_true rfl) dX2_chooseMove_9 ⟨Nat.zero_le _, Nat.zero_le _⟩ (fun H locs hG => ?_)
  refine lv_if_ne (tgt := 27) hx hb dX2_chooseMove_12 (by decide) (fun cq_2 => ?_) (fun cq_2 => ?_)
  · have hf := ifF cq_2 hf
    refine lv_lload hx hb dX2_chooseMove_27 (lv_at hl 0 rfl) ?_
    obtain ⟨zv_3, hqzv_3, hf⟩ := ob hf
    refine gc_Si hA hK hl.1 hG B (c_X2_greatestFree l D (gT cI cJ) _ (wC h0 q1 q2 q3 cJ g) zv_1 _ hqzv_3) (va_cwS 1 hts gX2_chooseMove_X2_greatestFree rfl rfl rfl (by decide +kernel) ⟨by decide, by decide⟩) rfl rfl (Nat.le_of_ble_eq_true rfl) dX2_chooseMove_29 ⟨Nat.zero_le _, Nat.zero_le _⟩ (fun H locs hG => ?_)
    refine lv_istore (lv' := [(6, .int zv_3), (4, .long zv_1), (0, .ref h0), (1, .int x1), (2, .int x2), (3, .int x3)]) hx hb dX2_chooseMove_32 hl (by decide) rfl (fun ls hl => ?_)
    refine lv_iload hx hb dX2_chooseMove_34 (lv_at hl 0 rfl) ?_
    refine lv_bipush (v := -3) hx hb dX2_chooseMove_36 (by decide) ?_
    refine lv_icmp_ne (tgt := 46) hx hb dX2_chooseMove_38 (by decide) (fun cq_4 => ?_) (fun cq_4 => ?_)
    · have hf := ifF cq_4 hf
      refine lv_aload_n hx hb dX2_chooseMove_46 rfl (lv_at hl 2 rfl) ?_
      refine lv_iload_n hx hb dX2_chooseMove_47 rfl (lv_at hl 5 rfl) ?_
      refine lv_iload hx hb dX2_chooseMove_48 (lv_at hl 0 rfl) ?_
      obtain ⟨zv_5, hqzv_5, hf⟩ := ob hf
      refine gc_Vi hA hK hl.1 hG B (c_X2_chooseMoveAway l D cI cJ h0 q1 q2 q3 _ g x3 zv_3 _ _ hqzv_5) (cwV 2 hts gX2_chooseMove_X2_chooseMoveAway rfl rfl rfl (by decide +kernel) ⟨by decide, by decide⟩) 0 rfl rfl rfl rfl rfl (Nat.le_of_ble_eq_true rfl) dX2_chooseMove_50 ⟨Nat.zero_le _, Nat.zero_le _⟩ (fun H locs hG => ?_)
      have hf := Option.some.inj hf
      obtain ⟨e1, e2⟩ := Prod.mk.inj hf
      subst e2
      exact g_iret hr hlk hK hG B rfl e1 dX2_chooseMove_53
    · have hf := ifT cq_4 hf
      refine lv_bipush (v := -5) hx hb dX2_chooseMove_41 (by decide) ?_
      refine lv_goto (tgt := 53) hx hb dX2_chooseMove_43 (by decide) ?_
      have hf := Option.some.inj hf
      obtain ⟨e1, e2⟩ := Prod.mk.inj hf
      subst e2
      exact g_iret hr hlk hK hG B rfl e1 dX2_chooseMove_53
  · have hf := ifT cq_2 hf
    refine lv_aload_n hx hb dX2_chooseMove_15 rfl (lv_at hl 1 rfl) ?_
    refine g_get hK hG B hinX2 0 rfl rfl 1 (by decide) m_19 rfl dX2_chooseMove_16 ?_
    refine lv_iload_n hx hb dX2_chooseMove_19 rfl (lv_at hl 2 rfl) ?_
    refine lv_iload_n hx hb dX2_chooseMove_20 rfl (lv_at hl 3 rfl) ?_
    refine lv_iload_n hx hb dX2_chooseMove_21 rfl (lv_at hl 4 rfl) ?_
    refine gc_Vv hA hK hl.1 hG B (c_X1_set l D cI cJ h0 q1 q2 q3 _ g x1 x2 x3 _ rfl) (cwV 3 hts gX2_chooseMove_X1_set rfl rfl rfl (by decide +kernel) ⟨by decide, by decide⟩) 2 rfl rfl rfl rfl rfl (Nat.le_of_ble_eq_true rfl) dX2_chooseMove_22 ⟨Nat.zero_le _, Nat.zero_le _⟩ (fun H locs hG => ?_)
    refine lv_iconst (v := 1) hx hb dX2_chooseMove_25 (by decide) ?_
    have hf := Option.some.inj hf
    obtain ⟨e1, e2⟩ := Prod.mk.inj hf
    subst e2
    exact g_iret hr hlk hK hG B rfl e1 dX2_chooseMove_26
def b_X2_findNextMove_19 (y2_19 : Int32) (y3_19 : Int32) (y1_19 : Int32) (y4_19 : Int32) (g19 : CS) : Option ((((Int32 × CS)) ⊕ (Int32 × CS)) ⊕ (Int32 × Int32 × CS)) := (if y3_19 ≤ y4_19 then some (.inl (.inr (y1_19, g19))) else (if (f_X2_placeOf y2_19 y4_19 g19) = y1_19 then some (.inr ((y1_19 + (1 : Int32)), (y4_19 + (1 : Int32)), g19)) else ((f_X2_chooseMove y2_19 y4_19 y1_19 g19).bind (fun zv_4 => some (.inl (.inl (zv_4.1, zv_4.2)))))))
def b_X2_findNextMove_4  (y1_4 : Int32) (y2_4 : Int32) (g4 : CS) : Option ((((Int32 × CS)) ⊕ (CS)) ⊕ (Int32 × Int32 × CS)) := (if (12 : Int32) ≤ y2_4 then some (.inl (.inr g4)) else ((itl (fun a : Int32 × Int32 × CS => b_X2_findNextMove_19 y2_4 (f_X2_blocksOf y2_4 g4) a.1 a.2.1 a.2.2) 300 (y1_4, (0 : Int32), g4)).bind (fun zv_5 => Sum.elim (fun v => some (.inl (.inl v))) (fun ev_5 => some (.inr (ev_5.1, (y2_4 + (1 : Int32)), ev_5.2))) zv_5)))
def f_X2_findNextMove  (g : CS) : Option (Int32 × CS) := ((itl (fun a : Int32 × Int32 × CS => b_X2_findNextMove_4  a.1 a.2.1 a.2.2) 300 ((0 : Int32), (0 : Int32), g)).bind (fun zv_6 => Sum.elim (fun v => some v) (fun ev_6 => some ((-3 : Int32), ev_6)) zv_6))
set_option maxHeartbeats 4000000 in
set_option maxRecDepth 100000 in
theorem c_X2_findNextMove (l : Launch) (D : va_G) (cI cJ : ClassId) (h0 q1 q2 q3 sz : Nat) (g : CS)  (r : Int32) (g1 : CS) (hf : f_X2_findNextMove  g = some (r, g1)) : Met l yX2_findNextMove wsX2_findNextMove { frames := 5, cells := 0, slots := 0, locals := 115 } (gPc D (gT cI cJ) sz (wC h0 q1 q2 q3 cJ g) [.ref h0]) (gQi D (gT cI cJ) (va_A (wC h0 q1 q2 q3 cJ g) sz) r (wC h0 q1 q2 q3 cJ g1)) 0 0 (va_A (wC h0 q1 q2 q3 cJ g) sz) := by
  refine gMet (cc := cX2_findNextMove) (maxL := 5) (ret := (some .int)) (by decide) rfl ?_ (Nat.le_of_ble_eq_true rfl)
  intro p e0 s m below meth c ls B hr hlk hsz hK hG hl
  have hA : ∀ q : Nat, s.heap.size ≤ q → va_A (wC h0 q1 q2 q3 cJ g) sz q := fun q h => Or.inr (hsz ▸ h)
  have hx := B.1
  have hb := B.2.1
  have hts := B.2.2.2.2
  have hl : lv_has ls 5 [(0, .ref h0)] := hl
  generalize va_A (wC h0 q1 q2 q3 cJ g) sz = A at hA hG ⊢
  have L19 : ∀ (res : (((Int32 × CS)) ⊕ (Int32 × CS))) (y2_19 : Int32) (y3_19 : Int32), (∀ v, res = .inl v → v = (r, g1)) → (∀ (H1 : Heap) (locs1 : List Loc) (ls1 : Array Slot) (e : Int32 × CS), res = .inr e → gG D A s.heap (wC h0 q1 q2 q3 cJ e.2) H1 locs1 → lv_has ls1 5 [(0, .ref h0), (1, .int e.1), (2, .int y2_19)] → W p l e0 { frames := 5, cells := 0, slots := 0, locals := 115 } s m ([.ref h0] : List Value).toArray below meth c H1 locs1 0 0 (MQ below (gQi D (gT cI cJ) A r (wC h0 q1 q2 q3 cJ g1)) ([.ref h0] : List Value).toArray s 0 0 A) (F0 m 54 ls1 [])) → ∀ (n : Nat) (y1_19 : Int32) (y4_19 : Int32) (g19 : CS) (H : Heap) (locs : List Loc) (ls : Array Slot), gG D A s.heap (wC h0 q1 q2 q3 cJ g19) H locs → lv_has ls 5 [(0, .ref h0), (1, .int y1_19), (2, .int y2_19), (3, .int y3_19), (4, .int y4_19)] → itl (fun a : Int32 × Int32 × CS => b_X2_findNextMove_19 y2_19 y3_19 a.1 a.2.1 a.2.2) n (y1_19, y4_19, g19) = some res → W p l e0 { frames := 5, cells := 0, slots := 0, locals := 115 } s m ([.ref h0] : List Value).toArray below meth c H locs 0 0 (MQ below (gQi D (gT cI cJ) A r (wC h0 q1 q2 q3 cJ g1)) ([.ref h0] : List Value).toArray s 0 0 A) (F0 m 19 ls []) := by
    intro res y2_19 y3_19 hKr19 hKe19 n
    induction n with
    | zero => exact fun y1_19 y4_19 g19 H locs ls hG hl hf => (itl_0 hf).elim
    | succ n ih =>
      intro y1_19 y4_19 g19 H locs ls hG hl hf
      obtain ⟨o, hf, ho19, hn19⟩ := itl_s hf
      have hf : b_X2_findNextMove_19 y2_19 y3_19 y1_19 y4_19 g19 = some o := hf
      unfold b_X2_findNextMove_19 at hf
      refine lv_iload hx hb dX2_findNextMove_19 (lv_at hl 4 rfl) ?_
      refine lv_iload_n hx hb dX2_findNextMove_21 rfl (lv_at hl 3 rfl) ?_
      refine lv_icmp_ge (tgt := 54) hx hb dX2_findNextMove_22 (by decide) (fun cq_2 => ?_) (fun cq_2 => ?_)
      · have hf := ifT cq_2 hf
        have hres := ho19 _ (Option.some.inj hf).symm
        exact hKe19 _ _ _ (y1_19, g19) hres.symm hG (lv_sub hl [0, 1, 2] rfl)
      · have hf := ifF cq_2 hf
        refine lv_aload_n hx hb dX2_findNextMove_25 rfl (lv_at hl 0 rfl) ?_
        refine lv_iload_n hx hb dX2_findNextMove_26 rfl (lv_at hl 2 rfl) ?_
        refine lv_iload hx hb dX2_findNextMove_27 (lv_at hl 4 rfl) ?_
        refine gc_Vi hA hK hl.1 hG B (c_X2_placeOf l D cI cJ h0 q1 q2 q3 _ g19 y2_19 y4_19 _ rfl) (cwV 2 hts gX2_findNextMove_X2_placeOf rfl rfl rfl (by decide +kernel) ⟨by decide, by decide⟩) 0 rfl rfl rfl rfl rfl (Nat.le_of_ble_eq_true rfl) dX2_findNextMove_29 ⟨Nat.zero_le _, Nat.zero_le _⟩ (fun H locs hG => ?_)
        refine lv_iload_n hx hb dX2_findNextMove_32 rfl (lv_at hl 1 rfl) ?_
        refine lv_icmp_eq (tgt := 45) hx hb dX2_findNextMove_33 (by decide) (fun cq_3 => ?_) (fun cq_3 => ?_)
        · have hf := ifT cq_3 hf
          refine lv_iinc (v := (y1_19 + (1 : Int32))) (lv' := [(1, .int (y1_19 + (1 : Int32))), (0, .ref h0), (2, .int y2_19), (3, .int y3_19), (4, .int y4_19)]) hx hb dX2_findNextMove_45 hl (k := 1) rfl rfl (by decide) rfl (fun ls hl => ?_)
          refine lv_iinc (v := (y4_19 + (1 : Int32))) (lv' := [(4, .int (y4_19 + (1 : Int32))), (1, .int (y1_19 + (1 : Int32))), (0, .ref h0), (2, .int y2_19), (3, .int y3_19)]) hx hb dX2_findNextMove_48 hl (k := 4) rfl rfl (by decide) rfl (fun ls hl => ?_)
          refine lv_goto (tgt := 19) hx hb dX2_findNextMove_51 (by decide) ?_
          have hn := hn19 _ (Option.some.inj hf).symm
          exact ih (y1_19 + (1 : Int32)) (y4_19 + (1 : Int32)) g19 _ _ _ hG (lv_sub hl [2, 1, 3, 4, 0] rfl) hn
        · have hf := ifF cq_3 hf
          refine lv_aload_n hx hb dX2_findNextMove_36 rfl (lv_at hl 0 rfl) ?_
          refine lv_iload_n hx hb dX2_findNextMove_37 rfl (lv_at hl 2 rfl) ?_
          refine lv_iload hx hb dX2_findNextMove_38 (lv_at hl 4 rfl) ?_
          refine lv_iload_n hx hb dX2_findNextMove_40 rfl (lv_at hl 1 rfl) ?_
          obtain ⟨zv_4, hqzv_4, hf⟩ := ob hf
          refine gc_Vi hA hK hl.1 hG B (c_X2_chooseMove l D cI cJ h0 q1 q2 q3 _ g19 y2_19 y4_19 y1_19 _ _ hqzv_4) (cwV 3 hts gX2_findNextMove_X2_chooseMove rfl rfl rfl (by decide +kernel) ⟨by decide, by decide⟩) 0 rfl rfl rfl rfl rfl (Nat.le_of_ble_eq_true rfl) dX2_findNextMove_41 ⟨Nat.zero_le _, Nat.zero_le _⟩ (fun H locs hG => ?_)
          have hf := hKr19 _ (ho19 _ (Option.some.inj hf).symm).symm
          obtain ⟨e1, e2⟩ := Prod.mk.inj hf
          subst e2
          exact g_iret hr hlk hK hG B rfl e1 dX2_findNextMove_44
  have L4 : ∀ (res : (((Int32 × CS)) ⊕ (CS))) , (∀ v, res = .inl v → v = (r, g1)) → (∀ (H1 : Heap) (locs1 : List Loc) (ls1 : Array Slot) (e : CS), res = .inr e → gG D A s.heap (wC h0 q1 q2 q3 cJ e) H1 locs1 → lv_has ls1 5 [] → W p l e0 { frames := 5, cells := 0, slots := 0, locals := 115 } s m ([.ref h0] : List Value).toArray below meth c H1 locs1 0 0 (MQ below (gQi D (gT cI cJ) A r (wC h0 q1 q2 q3 cJ g1)) ([.ref h0] : List Value).toArray s 0 0 A) (F0 m 60 ls1 [])) → ∀ (n : Nat) (y1_4 : Int32) (y2_4 : Int32) (g4 : CS) (H : Heap) (locs : List Loc) (ls : Array Slot), gG D A s.heap (wC h0 q1 q2 q3 cJ g4) H locs → lv_has ls 5 [(0, .ref h0), (1, .int y1_4), (2, .int y2_4)] → itl (fun a : Int32 × Int32 × CS => b_X2_findNextMove_4  a.1 a.2.1 a.2.2) n (y1_4, y2_4, g4) = some res → W p l e0 { frames := 5, cells := 0, slots := 0, locals := 115 } s m ([.ref h0] : List Value).toArray below meth c H locs 0 0 (MQ below (gQi D (gT cI cJ) A r (wC h0 q1 q2 q3 cJ g1)) ([.ref h0] : List Value).toArray s 0 0 A) (F0 m 4 ls []) := by
    intro res  hKr4 hKe4 n
    induction n with
    | zero => exact fun y1_4 y2_4 g4 H locs ls hG hl hf => (itl_0 hf).elim
    | succ n ih =>
      intro y1_4 y2_4 g4 H locs ls hG hl hf
      obtain ⟨o, hf, ho4, hn4⟩ := itl_s hf
      have hf : b_X2_findNextMove_4  y1_4 y2_4 g4 = some o := hf
      unfold b_X2_findNextMove_4 at hf
      refine lv_iload_n hx hb dX2_findNextMove_4 rfl (lv_at hl 2 rfl) ?_
      refine lv_bipush (v := 12) hx hb dX2_findNextMove_5 (by decide) ?_
      refine lv_icmp_ge (tgt := 60) hx hb dX2_findNextMove_7 (by decide) (fun cq_1 => ?_) (fun cq_1 => ?_)
      · have hf := ifT cq_1 hf
        have hres := ho4 _ (Option.some.inj hf).symm
        exact hKe4 _ _ _ g4 hres.symm hG (lv_sub hl [] rfl)
      · have hf := ifF cq_1 hf
        refine lv_aload_n hx hb dX2_findNextMove_10 rfl (lv_at hl 0 rfl) ?_
        refine lv_iload_n hx hb dX2_findNextMove_11 rfl (lv_at hl 2 rfl) ?_
        refine gc_Vi hA hK hl.1 hG B (c_X2_blocksOf l D cI cJ h0 q1 q2 q3 _ g4 y2_4 _ rfl) (cwV 1 hts gX2_findNextMove_X2_blocksOf rfl rfl rfl (by decide +kernel) ⟨by decide, by decide⟩) 0 rfl rfl rfl rfl rfl (Nat.le_of_ble_eq_true rfl) dX2_findNextMove_12 ⟨Nat.zero_le _, Nat.zero_le _⟩ (fun H locs hG => ?_)
        refine lv_istore_n (lv' := [(3, .int (f_X2_blocksOf y2_4 g4)), (0, .ref h0), (1, .int y1_4), (2, .int y2_4)]) hx hb dX2_findNextMove_15 rfl hl (by decide) rfl (fun ls hl => ?_)
        refine lv_iconst (v := 0) hx hb dX2_findNextMove_16 (by decide) ?_
        refine lv_istore (lv' := [(4, .int (0 : Int32)), (3, .int (f_X2_blocksOf y2_4 g4)), (0, .ref h0), (1, .int y1_4), (2, .int y2_4)]) hx hb dX2_findNextMove_17 hl (by decide) rfl (fun ls hl => ?_)
        obtain ⟨zv_5, hizv_5, hf⟩ := ob hf
        refine L19 zv_5 y2_4 (f_X2_blocksOf y2_4 g4) (fun v hres => by subst hres; have hf := se_l hf; exact hKr4 _ (ho4 _ (Option.some.inj hf).symm).symm) (fun H locs ls ev_5 hres hG hl => ?_) 300 y1_4 (0 : Int32) g4 _ _ _ hG (lv_sub hl [2, 3, 4, 1, 0] rfl) hizv_5
        have hres := hres.symm
        subst hres
        have hf := se_r hf
        refine lv_iinc (v := (y2_4 + (1 : Int32))) (lv' := [(2, .int (y2_4 + (1 : Int32))), (0, .ref h0), (1, .int ev_5.1)]) hx hb dX2_findNextMove_54 hl (k := 2) rfl rfl (by decide) rfl (fun ls hl => ?_)
        refine lv_goto (tgt := 4) hx hb dX2_findNextMove_57 (by decide) ?_
        have hn := hn4 _ (Option.some.inj hf).symm
        exact ih ev_5.1 (y2_4 + (1 : Int32)) ev_5.2 _ _ _ hG (lv_sub hl [1, 2, 0] rfl) hn
  unfold f_X2_findNextMove at hf
  refine lv_iconst (v := 0) hx hb dX2_findNextMove_0 (by decide) ?_
  refine lv_istore_n (lv' := [(1, .int (0 : Int32)), (0, .ref h0)]) hx hb dX2_findNextMove_1 rfl hl (by decide) rfl (fun ls hl => ?_)
  refine lv_iconst (v := 0) hx hb dX2_findNextMove_2 (by decide) ?_
  refine lv_istore_n (lv' := [(2, .int (0 : Int32)), (1, .int (0 : Int32)), (0, .ref h0)]) hx hb dX2_findNextMove_3 rfl hl (by decide) rfl (fun ls hl => ?_)
  obtain ⟨zv_6, hizv_6, hf⟩ := ob hf
  refine L4 zv_6  (fun v hres => by subst hres; have hf := se_l hf; exact Option.some.inj hf) (fun H locs ls ev_6 hres hG hl => ?_) 300 (0 : Int32) (0 : Int32) g _ _ _ hG (lv_sub hl [2, 1, 0] rfl) hizv_6
  have hres := hres.symm
  subst hres
  have hf := se_r hf
  refine lv_bipush (v := -3) hx hb dX2_findNextMove_60 (by decide) ?_
  have hf := Option.some.inj hf
  obtain ⟨e1, e2⟩ := Prod.mk.inj hf
  subst e2
  exact g_iret hr hlk hK hG B rfl e1 dX2_findNextMove_62
def f_X2_recordAt (x0 : Int32) : Int32 := ((240 : Int32) + x0)
set_option maxHeartbeats 4000000 in
set_option maxRecDepth 100000 in
theorem c_X2_recordAt (l : Launch) (D : va_G) (tys : List (ClassId × FieldType)) (sz : Nat) (w : va_W) (x0 : Int32) (r : Int32) (hf : f_X2_recordAt x0 = r) : Met l yX2_recordAt wsX2_recordAt { frames := 0, cells := 0, slots := 0, locals := 0 } (gPc D tys sz w [.int x0]) (gQi D tys (va_A w sz) r w) 0 0 (va_A w sz) := by
  refine gMet (cc := cX2_recordAt) (maxL := 1) (ret := (some .int)) (by decide) rfl ?_ (Nat.le_of_ble_eq_true rfl)
  intro p e0 s m below meth c ls B hr hlk hsz hK hG hl
  have hA : ∀ q : Nat, s.heap.size ≤ q → va_A w sz q := fun q h => Or.inr (hsz ▸ h)
  have hx := B.1
  have hb := B.2.1
  have hts := B.2.2.2.2
  have hl : lv_has ls 1 [(0, .int x0)] := hl
  generalize va_A w sz = A at hA hG ⊢
  unfold f_X2_recordAt at hf
  refine lv_sipush (v := 240) hx hb dX2_recordAt_0 (by decide) ?_
  refine lv_iload_n hx hb dX2_recordAt_3 rfl (lv_at hl 0 rfl) ?_
  refine lv_iadd hx hb dX2_recordAt_4 ?_
  exact g_iret hr hlk hK hG B rfl hf dX2_recordAt_5
def f_X2_recorded (x1 : Int32) (g : CS) : Int32 := (f_X0_word (f_X2_recordAt x1) g).toInt32
set_option maxHeartbeats 4000000 in
set_option maxRecDepth 100000 in
theorem c_X2_recorded (l : Launch) (D : va_G) (cI cJ : ClassId) (h0 q1 q2 q3 sz : Nat) (g : CS) (x1 : Int32) (r : Int32) (hf : f_X2_recorded x1 g = r) : Met l yX2_recorded wsX2_recorded { frames := 1, cells := 0, slots := 0, locals := 21 } (gPc D (gT cI cJ) sz (wC h0 q1 q2 q3 cJ g) [.ref h0, .int x1]) (gQi D (gT cI cJ) (va_A (wC h0 q1 q2 q3 cJ g) sz) r (wC h0 q1 q2 q3 cJ g)) 0 0 (va_A (wC h0 q1 q2 q3 cJ g) sz) := by
  refine gMet (cc := cX2_recorded) (maxL := 2) (ret := (some .int)) (by decide) rfl ?_ (Nat.le_of_ble_eq_true rfl)
  intro p e0 s m below meth c ls B hr hlk hsz hK hG hl
  have hA : ∀ q : Nat, s.heap.size ≤ q → va_A (wC h0 q1 q2 q3 cJ g) sz q := fun q h => Or.inr (hsz ▸ h)
  have hx := B.1
  have hb := B.2.1
  have hts := B.2.2.2.2
  have hl : lv_has ls 2 [(0, .ref h0), (1, .int x1)] := hl
  generalize va_A (wC h0 q1 q2 q3 cJ g) sz = A at hA hG ⊢
  have hinX2 : ∀ x ∈ wsX20, x ∈ wsX2_recorded := by decide +kernel
  have m_12 : Cond.fieldLink RX2 12 "BlockMover" "disk" "LBlockMover$Disk;" ∈ wsX2_recorded := by decide +kernel
  unfold f_X2_recorded at hf
  refine lv_aload_n hx hb dX2_recorded_0 rfl (lv_at hl 0 rfl) ?_
  refine g_get hK hG B hinX2 0 rfl rfl 0 (by decide) m_12 rfl dX2_recorded_1 ?_
  refine lv_iload_n hx hb dX2_recorded_4 rfl (lv_at hl 1 rfl) ?_
  refine gc_Si hA hK hl.1 hG B (c_X2_recordAt l D (gT cI cJ) _ (wC h0 q1 q2 q3 cJ g) x1 _ rfl) (va_cwS 1 hts gX2_recorded_X2_recordAt rfl rfl rfl (by decide +kernel) ⟨by decide, by decide⟩) rfl rfl (Nat.le_of_ble_eq_true rfl) dX2_recorded_5 ⟨Nat.zero_le _, Nat.zero_le _⟩ (fun H locs hG => ?_)
  refine gc_Vl hA hK hl.1 hG B (c_X0_word l D cI cJ h0 q1 q2 q3 _ g (f_X2_recordAt x1) _ rfl) (cwV 1 hts gX2_recorded_X0_word rfl rfl rfl (by decide +kernel) ⟨by decide, by decide⟩) 1 rfl rfl rfl rfl rfl (Nat.le_of_ble_eq_true rfl) dX2_recorded_8 ⟨Nat.zero_le _, Nat.zero_le _⟩ (fun H locs hG => ?_)
  refine lv_l2i hx hb dX2_recorded_11 rfl ?_
  exact g_iret hr hlk hK hG B rfl hf dX2_recorded_12
