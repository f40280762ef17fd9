def b_X3_count_47  (g : RS) (y2_47 : Int32) (y4_47 : Int32) : Option ((Int32) ⊕ (Int32 × Int32)) := (if (40 : Int32) ≤ y4_47 then some (.inl y2_47) else ((f_X3_isUsed y4_47 g).bind (fun zv_3 => (if zv_3 = (0 : Int32) then some (.inr ((y2_47 + (0 : Int32)), (y4_47 + (1 : Int32)))) else some (.inr ((y2_47 + (1 : Int32)), (y4_47 + (1 : Int32))))))))
def b_X3_count_82  (g : RS) (y2_82 : Int32) (y4_82 : Int32) : Option ((Int32) ⊕ (Int32 × Int32)) := (if (12 : Int32) ≤ y4_82 then some (.inl y2_82) else (chk y4_82 12 ((if (R_kind g y4_82.toNatClampNeg) = (0 : Int32) then some (.inr ((y2_82 + (0 : Int32)), (y4_82 + (1 : Int32)))) else some (.inr ((y2_82 + (1 : Int32)), (y4_82 + (1 : Int32))))))))
def b_X3_count_138 (y4_138 : Int32) (g : RS) (y2_138 : Int32) (y3_138 : Int32) (y5_138 : Int32) : Option ((Int32 × Int32) ⊕ (Int32 × Int32 × Int32)) := (chk y4_138 12 ((if (R_kind g y4_138.toNatClampNeg) = (2 : Int32) then (chk y4_138 12 ((if (R_size g y4_138.toNatClampNeg) ≤ y5_138 then some (.inl (y2_138, y3_138)) else (chk (((8 : Int32) * y4_138) + y5_138) 96 ((if (R_pl g (((8 : Int32) * y4_138) + y5_138).toNatClampNeg) = y3_138 then some (.inr ((y2_138 + (0 : Int32)), (y3_138 + (1 : Int32)), (y5_138 + (1 : Int32)))) else some (.inr ((y2_138 + (1 : Int32)), (y3_138 + (1 : Int32)), (y5_138 + (1 : Int32)))))))))) else some (.inl (y2_138, y3_138)))))
def b_X3_count_128  (g : RS) (y2_128 : Int32) (y3_128 : Int32) (y4_128 : Int32) : Option ((Int32) ⊕ (Int32 × Int32 × Int32)) := (if (12 : Int32) ≤ y4_128 then some (.inl y2_128) else ((itl (fun a : Int32 × Int32 × Int32 => b_X3_count_138 y4_128 g a.1 a.2.1 a.2.2) 300 (y2_128, y3_128, (0 : Int32))).bind (fun ev_21 => some (.inr (ev_21.1, ev_21.2, (y4_128 + (1 : Int32)))))))
def b_X3_count_206  (g : RS) (y2_206 : Int32) (y4_206 : Int32) : Option ((Int32) ⊕ (Int32 × Int32)) := (if (96 : Int32) ≤ y4_206 then some (.inl y2_206) else (chk (y4_206 / (8 : Int32)) 12 ((if (R_kind g (y4_206 / (8 : Int32)).toNatClampNeg) = (1 : Int32) then (chk y4_206 96 ((if (R_pl g y4_206.toNatClampNeg) = (0 : Int32) then some (.inr ((y2_206 + (0 : Int32)), (y4_206 + (1 : Int32)))) else some (.inr ((y2_206 + (1 : Int32)), (y4_206 + (1 : Int32))))))) else some (.inr ((y2_206 + (0 : Int32)), (y4_206 + (1 : Int32))))))))
def f_X3_count (x1 : Int32) (g : RS) : Option Int32 := (if x1 = (0 : Int32) then ((itl (fun a : Int32 × Int32 => b_X3_count_47  g a.1 a.2) 300 ((0 : Int32), (0 : Int32))).bind (fun ev_5 => some ev_5)) else (if x1 = (1 : Int32) then ((itl (fun a : Int32 × Int32 => b_X3_count_82  g a.1 a.2) 300 ((0 : Int32), (0 : Int32))).bind (fun ev_10 => some ev_10)) else (if x1 = (2 : Int32) then some (R_wr g) else (if x1 = (3 : Int32) then some (R_mv g) else (if x1 = (4 : Int32) then ((itl (fun a : Int32 × Int32 × Int32 => b_X3_count_128  g a.1 a.2.1 a.2.2) 300 ((0 : Int32), (0 : Int32), (0 : Int32))).bind (fun ev_22 => some ev_22)) else (if x1 = (5 : Int32) then ((itl (fun a : Int32 × Int32 => b_X3_count_206  g a.1 a.2) 300 ((0 : Int32), (0 : Int32))).bind (fun ev_29 => some ev_29)) else some (-1 : Int32)))))))
set_option maxHeartbeats 4000000 in
set_option maxRecDepth 100000 in
theorem c_X3_count (l : Launch) (D : va_G) (cI cJ : ClassId) (h0 qk qs qp qw qr qo qn sz : Nat) (g : RS) (x1 : Int32) (r : Int32) (hf : f_X3_count x1 g = some r) : Met l yX3_count wsX3_count { frames := 1, cells := 0, slots := 0, locals := 23 } (gPc D (gT cI cJ) sz (wR h0 qk qs qp qw qr qo qn cI cJ g) [.ref h0, .int x1]) (gQi D (gT cI cJ) (va_A (wR h0 qk qs qp qw qr qo qn cI cJ g) sz) r (wR h0 qk qs qp qw qr qo qn cI cJ g)) 0 0 (va_A (wR h0 qk qs qp qw qr qo qn cI cJ g) sz) := by
  refine gMet (cc := cX3_count) (maxL := 6) (ret := (some .int)) (by decide) rfl ?_ (Nat.le_of_ble_eq_true rfl)
  intro p e0 s m below meth c ls B hr hlk hsz hK hG hl
  have hA : ∀ q : Nat, s.heap.size ≤ q → va_A (wR h0 qk qs qp qw qr qo qn cI cJ g) sz q := fun q h => Or.inr (hsz ▸ h)
  have hx := B.1
  have hb := B.2.1
  have hts := B.2.2.2.2
  have hl : lv_has ls 6 [(0, .ref h0), (1, .int x1)] := hl
  generalize va_A (wR h0 qk qs qp qw qr qo qn cI cJ g) sz = A at hA hG ⊢
  have hinX3 : ∀ x ∈ wsX30, x ∈ wsX3_count := by decide +kernel
  have m_7 : Cond.fieldLink RX3 7 "BlockMoverModel" "kind" "[I" ∈ wsX3_count := by decide +kernel
  have m_13 : Cond.fieldLink RX3 13 "BlockMoverModel" "size" "[I" ∈ wsX3_count := by decide +kernel
  have m_16 : Cond.fieldLink RX3 16 "BlockMoverModel" "places" "[I" ∈ wsX3_count := by decide +kernel
  have m_40 : Cond.fieldLink RX3 40 "BlockMoverModel" "writes" "I" ∈ wsX3_count := by decide +kernel
  have m_125 : Cond.fieldLink RX3 125 "BlockMoverModel" "moves" "I" ∈ wsX3_count := by decide +kernel
  have L47 : ∀ (res : (Int32)) , (∀ (H1 : Heap) (locs1 : List Loc) (ls1 : Array Slot) (e : Int32), res = e → gG D A s.heap (wR h0 qk qs qp qw qr qo qn cI cJ g) H1 locs1 → lv_has ls1 6 [(2, .int e)] → W p l e0 { frames := 1, cells := 0, slots := 0, locals := 23 } s m ([.ref h0, .int x1] : List Value).toArray below meth c H1 locs1 0 0 (MQ below (gQi D (gT cI cJ) A r (wR h0 qk qs qp qw qr qo qn cI cJ g)) ([.ref h0, .int x1] : List Value).toArray s 0 0 A) (F0 m 77 ls1 [])) → ∀ (n : Nat) (y2_47 : Int32) (y4_47 : Int32) (H : Heap) (locs : List Loc) (ls : Array Slot), gG D A s.heap (wR h0 qk qs qp qw qr qo qn cI cJ g) H locs → lv_has ls 6 [(0, .ref h0), (2, .int y2_47), (4, .int y4_47)] → itl (fun a : Int32 × Int32 => b_X3_count_47  g a.1 a.2) n (y2_47, y4_47) = some res → W p l e0 { frames := 1, cells := 0, slots := 0, locals := 23 } s m ([.ref h0, .int x1] : List Value).toArray below meth c H locs 0 0 (MQ below (gQi D (gT cI cJ) A r (wR h0 qk qs qp qw qr qo qn cI cJ g)) ([.ref h0, .int x1] : List Value).toArray s 0 0 A) (F0 m 47 ls []) := by
    intro res  hKe47 n
    induction n with
    | zero => exact fun y2_47 y4_47 H locs ls hG hl hf => (itl_0 hf).elim
    | succ n ih =>
      intro y2_47 y4_47 H locs ls hG hl hf
      obtain ⟨o, hf, ho47, hn47⟩ := itl_s hf
      have hf : b_X3_count_47  g y2_47 y4_47 = some o := hf
      unfold b_X3_count_47 at hf
      refine lv_iload hx hb dX3_count_47 (lv_at hl 2 rfl) ?_
      refine lv_bipush (v := 40) hx hb dX3_count_49 (by decide) ?_
      refine lv_icmp_ge (tgt := 77) hx hb dX3_count_51 (by decide) (fun cq_2 => ?_) (fun cq_2 => ?_)
      · have hf := ifT cq_2 hf
        have hres := ho47 _ (Option.some.inj hf).symm
        exact hKe47 _ _ _ y2_47 hres.symm hG (lv_sub hl [1] rfl)
      · have hf := ifF cq_2 hf
        refine lv_iload_n hx hb dX3_count_54 rfl (lv_at hl 1 rfl) ?_
        refine lv_aload_n hx hb dX3_count_55 rfl (lv_at hl 0 rfl) ?_
        refine lv_iload hx hb dX3_count_56 (lv_at hl 2 rfl) ?_
        obtain ⟨zv_3, hqzv_3, hf⟩ := ob hf
        refine gc_Vi hA hK hl.1 hG B (c_X3_isUsed l D cI cJ h0 qk qs qp qw qr qo qn _ g y4_47 _ hqzv_3) (cwV 1 hts gX3_count_X3_isUsed rfl rfl rfl (by decide +kernel) ⟨by decide, by decide⟩) 0 rfl rfl rfl rfl rfl (Nat.le_of_ble_eq_true rfl) dX3_count_58 ⟨Nat.zero_le _, Nat.zero_le _⟩ (fun H locs hG => ?_)
        refine lv_if_eq (tgt := 68) hx hb dX3_count_61 (by decide) (fun cq_4 => ?_) (fun cq_4 => ?_)
        · have hf := ifT cq_4 hf
          refine lv_iconst (v := 0) hx hb dX3_count_68 (by decide) ?_
          refine lv_iadd hx hb dX3_count_69 ?_
          refine lv_istore_n (lv' := [(2, .int (y2_47 + (0 : Int32))), (0, .ref h0), (4, .int y4_47)]) hx hb dX3_count_70 rfl hl (by decide) rfl (fun ls hl => ?_)
          refine lv_iinc (v := (y4_47 + (1 : Int32))) (lv' := [(4, .int (y4_47 + (1 : Int32))), (2, .int (y2_47 + (0 : Int32))), (0, .ref h0)]) hx hb dX3_count_71 hl (k := 2) rfl rfl (by decide) rfl (fun ls hl => ?_)
          refine lv_goto (tgt := 47) hx hb dX3_count_74 (by decide) ?_
          have hn := hn47 _ (Option.some.inj hf).symm
          exact ih (y2_47 + (0 : Int32)) (y4_47 + (1 : Int32)) _ _ _ hG (lv_sub hl [2, 1, 0] rfl) hn
        · have hf := ifF cq_4 hf
          refine lv_iconst (v := 1) hx hb dX3_count_64 (by decide) ?_
          refine lv_goto (tgt := 69) hx hb dX3_count_65 (by decide) ?_
          refine lv_iadd hx hb dX3_count_69 ?_
          refine lv_istore_n (lv' := [(2, .int (y2_47 + (1 : Int32))), (0, .ref h0), (4, .int y4_47)]) hx hb dX3_count_70 rfl hl (by decide) rfl (fun ls hl => ?_)
          refine lv_iinc (v := (y4_47 + (1 : Int32))) (lv' := [(4, .int (y4_47 + (1 : Int32))), (2, .int (y2_47 + (1 : Int32))), (0, .ref h0)]) hx hb dX3_count_71 hl (k := 2) rfl rfl (by decide) rfl (fun ls hl => ?_)
          refine lv_goto (tgt := 47) hx hb dX3_count_74 (by decide) ?_
          have hn := hn47 _ (Option.some.inj hf).symm
          exact ih (y2_47 + (1 : Int32)) (y4_47 + (1 : Int32)) _ _ _ hG (lv_sub hl [2, 1, 0] rfl) hn
  have L82 : ∀ (res : (Int32)) , (∀ (H1 : Heap) (locs1 : List Loc) (ls1 : Array Slot) (e : Int32), res = e → gG D A s.heap (wR h0 qk qs qp qw qr qo qn cI cJ g) H1 locs1 → lv_has ls1 6 [(2, .int e)] → W p l e0 { frames := 1, cells := 0, slots := 0, locals := 23 } s m ([.ref h0, .int x1] : List Value).toArray below meth c H1 locs1 0 0 (MQ below (gQi D (gT cI cJ) A r (wR h0 qk qs qp qw qr qo qn cI cJ g)) ([.ref h0, .int x1] : List Value).toArray s 0 0 A) (F0 m 113 ls1 [])) → ∀ (n : Nat) (y2_82 : Int32) (y4_82 : Int32) (H : Heap) (locs : List Loc) (ls : Array Slot), gG D A s.heap (wR h0 qk qs qp qw qr qo qn cI cJ g) H locs → lv_has ls 6 [(0, .ref h0), (2, .int y2_82), (4, .int y4_82)] → itl (fun a : Int32 × Int32 => b_X3_count_82  g a.1 a.2) n (y2_82, y4_82) = some res → W p l e0 { frames := 1, cells := 0, slots := 0, locals := 23 } s m ([.ref h0, .int x1] : List Value).toArray below meth c H locs 0 0 (MQ below (gQi D (gT cI cJ) A r (wR h0 qk qs qp qw qr qo qn cI cJ g)) ([.ref h0, .int x1] : List Value).toArray s 0 0 A) (F0 m 82 ls []) := by
    intro res  hKe82 n
    induction n with
    | zero => exact fun y2_82 y4_82 H locs ls hG hl hf => (itl_0 hf).elim
    | succ n ih =>
      intro y2_82 y4_82 H locs ls hG hl hf
      obtain ⟨o, hf, ho82, hn82⟩ := itl_s hf
      have hf : b_X3_count_82  g y2_82 y4_82 = some o := hf
      unfold b_X3_count_82 at hf
      refine lv_iload hx hb dX3_count_82 (lv_at hl 2 rfl) ?_
      refine lv_bipush (v := 12) hx hb dX3_count_84 (by decide) ?_
      refine lv_icmp_ge (tgt := 113) hx hb dX3_count_86 (by decide) (fun cq_7 => ?_) (fun cq_7 => ?_)
      · have hf := ifT cq_7 hf
        have hres := ho82 _ (Option.some.inj hf).symm
        exact hKe82 _ _ _ y2_82 hres.symm hG (lv_sub hl [1] rfl)
      · have hf := ifF cq_7 hf
        refine lv_iload_n hx hb dX3_count_89 rfl (lv_at hl 1 rfl) ?_
        refine lv_aload_n hx hb dX3_count_90 rfl (lv_at hl 0 rfl) ?_
        refine g_get hK hG B hinX3 0 rfl rfl 0 (by decide) m_7 rfl dX3_count_91 ?_
        refine lv_iload hx hb dX3_count_94 (lv_at hl 2 rfl) ?_
        obtain ⟨vq_8, hf⟩ := chk_s hf
        refine g_iald hK hG B 1 rfl vq_8 dX3_count_96 ?_
        refine lv_if_eq (tgt := 104) hx hb dX3_count_97 (by decide) (fun cq_9 => ?_) (fun cq_9 => ?_)
        · have hf := ifT cq_9 hf
          refine lv_iconst (v := 0) hx hb dX3_count_104 (by decide) ?_
          refine lv_iadd hx hb dX3_count_105 ?_
          refine lv_istore_n (lv' := [(2, .int (y2_82 + (0 : Int32))), (0, .ref h0), (4, .int y4_82)]) hx hb dX3_count_106 rfl hl (by decide) rfl (fun ls hl => ?_)
          refine lv_iinc (v := (y4_82 + (1 : Int32))) (lv' := [(4, .int (y4_82 + (1 : Int32))), (2, .int (y2_82 + (0 : Int32))), (0, .ref h0)]) hx hb dX3_count_107 hl (k := 2) rfl rfl (by decide) rfl (fun ls hl => ?_)
          refine lv_goto (tgt := 82) hx hb dX3_count_110 (by decide) ?_
          have hn := hn82 _ (Option.some.inj hf).symm
          exact ih (y2_82 + (0 : Int32)) (y4_82 + (1 : Int32)) _ _ _ hG (lv_sub hl [2, 1, 0] rfl) hn
        · have hf := ifF cq_9 hf
          refine lv_iconst (v := 1) hx hb dX3_count_100 (by decide) ?_
          refine lv_goto (tgt := 105) hx hb dX3_count_101 (by decide) ?_
          refine lv_iadd hx hb dX3_count_105 ?_
          refine lv_istore_n (lv' := [(2, .int (y2_82 + (1 : Int32))), (0, .ref h0), (4, .int y4_82)]) hx hb dX3_count_106 rfl hl (by decide) rfl (fun ls hl => ?_)
          refine lv_iinc (v := (y4_82 + (1 : Int32))) (lv' := [(4, .int (y4_82 + (1 : Int32))), (2, .int (y2_82 + (1 : Int32))), (0, .ref h0)]) hx hb dX3_count_107 hl (k := 2) rfl rfl (by decide) rfl (fun ls hl => ?_)
          refine lv_goto (tgt := 82) hx hb dX3_count_110 (by decide) ?_
          have hn := hn82 _ (Option.some.inj hf).symm
          exact ih (y2_82 + (1 : Int32)) (y4_82 + (1 : Int32)) _ _ _ hG (lv_sub hl [2, 1, 0] rfl) hn
  have L138 : ∀ (res : (Int32 × Int32)) (y4_138 : Int32), (∀ (H1 : Heap) (locs1 : List Loc) (ls1 : Array Slot) (e : Int32 × Int32), res = e → gG D A s.heap (wR h0 qk qs qp qw qr qo qn cI cJ g) H1 locs1 → lv_has ls1 6 [(0, .ref h0), (2, .int e.1), (3, .int e.2), (4, .int y4_138)] → W p l e0 { frames := 1, cells := 0, slots := 0, locals := 23 } s m ([.ref h0, .int x1] : List Value).toArray below meth c H1 locs1 0 0 (MQ below (gQi D (gT cI cJ) A r (wR h0 qk qs qp qw qr qo qn cI cJ g)) ([.ref h0, .int x1] : List Value).toArray s 0 0 A) (F0 m 195 ls1 [])) → ∀ (n : Nat) (y2_138 : Int32) (y3_138 : Int32) (y5_138 : Int32) (H : Heap) (locs : List Loc) (ls : Array Slot), gG D A s.heap (wR h0 qk qs qp qw qr qo qn cI cJ g) H locs → lv_has ls 6 [(0, .ref h0), (2, .int y2_138), (3, .int y3_138), (4, .int y4_138), (5, .int y5_138)] → itl (fun a : Int32 × Int32 × Int32 => b_X3_count_138 y4_138 g a.1 a.2.1 a.2.2) n (y2_138, y3_138, y5_138) = some res → W p l e0 { frames := 1, cells := 0, slots := 0, locals := 23 } s m ([.ref h0, .int x1] : List Value).toArray below meth c H locs 0 0 (MQ below (gQi D (gT cI cJ) A r (wR h0 qk qs qp qw qr qo qn cI cJ g)) ([.ref h0, .int x1] : List Value).toArray s 0 0 A) (F0 m 138 ls []) := by
    intro res y4_138 hKe138 n
    induction n with
    | zero => exact fun y2_138 y3_138 y5_138 H locs ls hG hl hf => (itl_0 hf).elim
    | succ n ih =>
      intro y2_138 y3_138 y5_138 H locs ls hG hl hf
      obtain ⟨o, hf, ho138, hn138⟩ := itl_s hf
      have hf : b_X3_count_138 y4_138 g y2_138 y3_138 y5_138 = some o := hf
      unfold b_X3_count_138 at hf
      refine lv_aload_n hx hb dX3_count_138 rfl (lv_at hl 0 rfl) ?_
      refine g_get hK hG B hinX3 0 rfl rfl 0 (by decide) m_7 rfl dX3_count_139 ?_
      refine lv_iload hx hb dX3_count_142 (lv_at hl 3 rfl) ?_
      obtain ⟨vq_15, hf⟩ := chk_s hf
      refine g_iald hK hG B 1 rfl vq_15 dX3_count_144 ?_
      refine lv_iconst (v := 2) hx hb dX3_count_145 (by decide) ?_
      refine lv_icmp_ne (tgt := 195) hx hb dX3_count_146 (by decide) (fun cq_16 => ?_) (fun cq_16 => ?_)
      · have hf := ifF cq_16 hf
        have hres := ho138 _ (Option.some.inj hf).symm
        exact hKe138 _ _ _ (y2_138, y3_138) hres.symm hG (lv_sub hl [0, 1, 2, 3] rfl)
      · have hf := ifT cq_16 hf
        refine lv_iload hx hb dX3_count_149 (lv_at hl 4 rfl) ?_
        refine lv_aload_n hx hb dX3_count_151 rfl (lv_at hl 0 rfl) ?_
        refine g_get hK hG B hinX3 0 rfl rfl 1 (by decide) m_13 rfl dX3_count_152 ?_
        refine lv_iload hx hb dX3_count_155 (lv_at hl 3 rfl) ?_
        obtain ⟨vq_17, hf⟩ := chk_s hf
        refine g_iald hK hG B 2 rfl vq_17 dX3_count_157 ?_
        refine lv_icmp_ge (tgt := 195) hx hb dX3_count_158 (by decide) (fun cq_18 => ?_) (fun cq_18 => ?_)
        · have hf := ifT cq_18 hf
          have hres := ho138 _ (Option.some.inj hf).symm
          exact hKe138 _ _ _ (y2_138, y3_138) hres.symm hG (lv_sub hl [0, 1, 2, 3] rfl)
        · have hf := ifF cq_18 hf
          refine lv_iload_n hx hb dX3_count_161 rfl (lv_at hl 1 rfl) ?_
          refine lv_aload_n hx hb dX3_count_162 rfl (lv_at hl 0 rfl) ?_
          refine g_get hK hG B hinX3 0 rfl rfl 2 (by decide) m_16 rfl dX3_count_163 ?_
          refine lv_bipush (v := 8) hx hb dX3_count_166 (by decide) ?_
          refine lv_iload hx hb dX3_count_168 (lv_at hl 3 rfl) ?_
          refine lv_imul hx hb dX3_count_170 ?_
          refine lv_iload hx hb dX3_count_171 (lv_at hl 4 rfl) ?_
          refine lv_iadd hx hb dX3_count_173 ?_
          obtain ⟨vq_19, hf⟩ := chk_s hf
          refine g_iald hK hG B 3 rfl vq_19 dX3_count_174 ?_
          refine lv_iload_n hx hb dX3_count_175 rfl (lv_at hl 2 rfl) ?_
          refine lv_icmp_eq (tgt := 183) hx hb dX3_count_176 (by decide) (fun cq_20 => ?_) (fun cq_20 => ?_)
          · have hf := ifT cq_20 hf
            refine lv_iconst (v := 0) hx hb dX3_count_183 (by decide) ?_
            refine lv_iadd hx hb dX3_count_184 ?_
            refine lv_istore_n (lv' := [(2, .int (y2_138 + (0 : Int32))), (0, .ref h0), (3, .int y3_138), (4, .int y4_138), (5, .int y5_138)]) hx hb dX3_count_185 rfl hl (by decide) rfl (fun ls hl => ?_)
            refine lv_iinc (v := (y3_138 + (1 : Int32))) (lv' := [(3, .int (y3_138 + (1 : Int32))), (2, .int (y2_138 + (0 : Int32))), (0, .ref h0), (4, .int y4_138), (5, .int y5_138)]) hx hb dX3_count_186 hl (k := 2) rfl rfl (by decide) rfl (fun ls hl => ?_)
            refine lv_iinc (v := (y5_138 + (1 : Int32))) (lv' := [(5, .int (y5_138 + (1 : Int32))), (3, .int (y3_138 + (1 : Int32))), (2, .int (y2_138 + (0 : Int32))), (0, .ref h0), (4, .int y4_138)]) hx hb dX3_count_189 hl (k := 4) rfl rfl (by decide) rfl (fun ls hl => ?_)
            refine lv_goto (tgt := 138) hx hb dX3_count_192 (by decide) ?_
            have hn := hn138 _ (Option.some.inj hf).symm
            exact ih (y2_138 + (0 : Int32)) (y3_138 + (1 : Int32)) (y5_138 + (1 : Int32)) _ _ _ hG (lv_sub hl [3, 2, 1, 4, 0] rfl) hn
          · have hf := ifF cq_20 hf
            refine lv_iconst (v := 1) hx hb dX3_count_179 (by decide) ?_
            refine lv_goto (tgt := 184) hx hb dX3_count_180 (by decide) ?_
            refine lv_iadd hx hb dX3_count_184 ?_
            refine lv_istore_n (lv' := [(2, .int (y2_138 + (1 : Int32))), (0, .ref h0), (3, .int y3_138), (4, .int y4_138), (5, .int y5_138)]) hx hb dX3_count_185 rfl hl (by decide) rfl (fun ls hl => ?_)
            refine lv_iinc (v := (y3_138 + (1 : Int32))) (lv' := [(3, .int (y3_138 + (1 : Int32))), (2, .int (y2_138 + (1 : Int32))), (0, .ref h0), (4, .int y4_138), (5, .int y5_138)]) hx hb dX3_count_186 hl (k := 2) rfl rfl (by decide) rfl (fun ls hl => ?_)
            refine lv_iinc (v := (y5_138 + (1 : Int32))) (lv' := [(5, .int (y5_138 + (1 : Int32))), (3, .int (y3_138 + (1 : Int32))), (2, .int (y2_138 + (1 : Int32))), (0, .ref h0), (4, .int y4_138)]) hx hb dX3_count_189 hl (k := 4) rfl rfl (by decide) rfl (fun ls hl => ?_)
            refine lv_goto (tgt := 138) hx hb dX3_count_192 (by decide) ?_
            have hn := hn138 _ (Option.some.inj hf).symm
            exact ih (y2_138 + (1 : Int32)) (y3_138 + (1 : Int32)) (y5_138 + (1 : Int32)) _ _ _ hG (lv_sub hl [3, 2, 1, 4, 0] rfl) hn
  have L128 : ∀ (res : (Int32)) , (∀ (H1 : Heap) (locs1 : List Loc) (ls1 : Array Slot) (e : Int32), res = e → gG D A s.heap (wR h0 qk qs qp qw qr qo qn cI cJ g) H1 locs1 → lv_has ls1 6 [(2, .int e)] → W p l e0 { frames := 1, cells := 0, slots := 0, locals := 23 } s m ([.ref h0, .int x1] : List Value).toArray below meth c H1 locs1 0 0 (MQ below (gQi D (gT cI cJ) A r (wR h0 qk qs qp qw qr qo qn cI cJ g)) ([.ref h0, .int x1] : List Value).toArray s 0 0 A) (F0 m 201 ls1 [])) → ∀ (n : Nat) (y2_128 : Int32) (y3_128 : Int32) (y4_128 : Int32) (H : Heap) (locs : List Loc) (ls : Array Slot), gG D A s.heap (wR h0 qk qs qp qw qr qo qn cI cJ g) H locs → lv_has ls 6 [(0, .ref h0), (2, .int y2_128), (3, .int y3_128), (4, .int y4_128)] → itl (fun a : Int32 × Int32 × Int32 => b_X3_count_128  g a.1 a.2.1 a.2.2) n (y2_128, y3_128, y4_128) = some res → W p l e0 { frames := 1, cells := 0, slots := 0, locals := 23 } s m ([.ref h0, .int x1] : List Value).toArray below meth c H locs 0 0 (MQ below (gQi D (gT cI cJ) A r (wR h0 qk qs qp qw qr qo qn cI cJ g)) ([.ref h0, .int x1] : List Value).toArray s 0 0 A) (F0 m 128 ls []) := by
    intro res  hKe128 n
    induction n with
    | zero => exact fun y2_128 y3_128 y4_128 H locs ls hG hl hf => (itl_0 hf).elim
    | succ n ih =>
      intro y2_128 y3_128 y4_128 H locs ls hG hl hf
      obtain ⟨o, hf, ho128, hn128⟩ := itl_s hf
      have hf : b_X3_count_128  g y2_128 y3_128 y4_128 = some o := hf
      unfold b_X3_count_128 at hf
      refine lv_iload hx hb dX3_count_128 (lv_at hl 3 rfl) ?_
      refine lv_bipush (v := 12) hx hb dX3_count_130 (by decide) ?_
      refine lv_icmp_ge (tgt := 201) hx hb dX3_count_132 (by decide) (fun cq_14 => ?_) (fun cq_14 => ?_)
      · have hf := ifT cq_14 hf
        have hres := ho128 _ (Option.some.inj hf).symm
        exact hKe128 _ _ _ y2_128 hres.symm hG (lv_sub hl [1] rfl)
      · have hf := ifF cq_14 hf
        refine lv_iconst (v := 0) hx hb dX3_count_135 (by decide) ?_
        refine lv_istore (lv' := [(5, .int (0 : Int32)), (0, .ref h0), (2, .int y2_128), (3, .int y3_128), (4, .int y4_128)]) hx hb dX3_count_136 hl (by decide) rfl (fun ls hl => ?_)
        obtain ⟨zv_21, hizv_21, hf⟩ := ob hf
        refine L138 zv_21 y4_128 (fun H locs ls ev_21 hres hG hl => ?_) 300 y2_128 y3_128 (0 : Int32) _ _ _ hG (lv_sub hl [1, 2, 3, 4, 0] rfl) hizv_21
        have hres := hres.symm
        subst hres
        refine lv_iinc (v := (y4_128 + (1 : Int32))) (lv' := [(4, .int (y4_128 + (1 : Int32))), (0, .ref h0), (2, .int ev_21.1), (3, .int ev_21.2)]) hx hb dX3_count_195 hl (k := 3) rfl rfl (by decide) rfl (fun ls hl => ?_)
        refine lv_goto (tgt := 128) hx hb dX3_count_198 (by decide) ?_
        have hn := hn128 _ (Option.some.inj hf).symm
        exact ih ev_21.1 ev_21.2 (y4_128 + (1 : Int32)) _ _ _ hG (lv_sub hl [1, 2, 3, 0] rfl) hn
  have L206 : ∀ (res : (Int32)) , (∀ (H1 : Heap) (locs1 : List Loc) (ls1 : Array Slot) (e : Int32), res = e → gG D A s.heap (wR h0 qk qs qp qw qr qo qn cI cJ g) H1 locs1 → lv_has ls1 6 [(2, .int e)] → W p l e0 { frames := 1, cells := 0, slots := 0, locals := 23 } s m ([.ref h0, .int x1] : List Value).toArray below meth c H1 locs1 0 0 (MQ below (gQi D (gT cI cJ) A r (wR h0 qk qs qp qw qr qo qn cI cJ g)) ([.ref h0, .int x1] : List Value).toArray s 0 0 A) (F0 m 251 ls1 [])) → ∀ (n : Nat) (y2_206 : Int32) (y4_206 : Int32) (H : Heap) (locs : List Loc) (ls : Array Slot), gG D A s.heap (wR h0 qk qs qp qw qr qo qn cI cJ g) H locs → lv_has ls 6 [(0, .ref h0), (2, .int y2_206), (4, .int y4_206)] → itl (fun a : Int32 × Int32 => b_X3_count_206  g a.1 a.2) n (y2_206, y4_206) = some res → W p l e0 { frames := 1, cells := 0, slots := 0, locals := 23 } s m ([.ref h0, .int x1] : List Value).toArray below meth c H locs 0 0 (MQ below (gQi D (gT cI cJ) A r (wR h0 qk qs qp qw qr qo qn cI cJ g)) ([.ref h0, .int x1] : List Value).toArray s 0 0 A) (F0 m 206 ls []) := by
    intro res  hKe206 n
    induction n with
    | zero => exact fun y2_206 y4_206 H locs ls hG hl hf => (itl_0 hf).elim
    | succ n ih =>
      intro y2_206 y4_206 H locs ls hG hl hf
      obtain ⟨o, hf, ho206, hn206⟩ := itl_s hf
      have hf : b_X3_count_206  g y2_206 y4_206 = some o := hf
      unfold b_X3_count_206 at hf
      refine lv_iload hx hb dX3_count_206 (lv_at hl 2 rfl) ?_
      refine lv_bipush (v := 96) hx hb dX3_count_208 (by decide) ?_
      refine lv_icmp_ge (tgt := 251) hx hb dX3_count_210 (by decide) (fun cq_24 => ?_) (fun cq_24 => ?_)
      · have hf := ifT cq_24 hf
        have hres := ho206 _ (Option.some.inj hf).symm
        exact hKe206 _ _ _ y2_206 hres.symm hG (lv_sub hl [1] rfl)
      · have hf := ifF cq_24 hf
        refine lv_iload_n hx hb dX3_count_213 rfl (lv_at hl 1 rfl) ?_
        refine lv_aload_n hx hb dX3_count_214 rfl (lv_at hl 0 rfl) ?_
        refine g_get hK hG B hinX3 0 rfl rfl 0 (by decide) m_7 rfl dX3_count_215 ?_
        refine lv_iload hx hb dX3_count_218 (lv_at hl 2 rfl) ?_
        refine lv_bipush (v := 8) hx hb dX3_count_220 (by decide) ?_
        refine lv_idiv hx hb dX3_count_222 (by decide) ?_
        obtain ⟨vq_25, hf⟩ := chk_s hf
        refine g_iald hK hG B 1 rfl vq_25 dX3_count_223 ?_
        refine lv_iconst (v := 1) hx hb dX3_count_224 (by decide) ?_
        refine lv_icmp_ne (tgt := 242) hx hb dX3_count_225 (by decide) (fun cq_26 => ?_) (fun cq_26 => ?_)
        · have hf := ifF cq_26 hf
          refine lv_iconst (v := 0) hx hb dX3_count_242 (by decide) ?_
          refine lv_iadd hx hb dX3_count_243 ?_
          refine lv_istore_n (lv' := [(2, .int (y2_206 + (0 : Int32))), (0, .ref h0), (4, .int y4_206)]) hx hb dX3_count_244 rfl hl (by decide) rfl (fun ls hl => ?_)
          refine lv_iinc (v := (y4_206 + (1 : Int32))) (lv' := [(4, .int (y4_206 + (1 : Int32))), (2, .int (y2_206 + (0 : Int32))), (0, .ref h0)]) hx hb dX3_count_245 hl (k := 2) rfl rfl (by decide) rfl (fun ls hl => ?_)
          refine lv_goto (tgt := 206) hx hb dX3_count_248 (by decide) ?_
          have hn := hn206 _ (Option.some.inj hf).symm
          exact ih (y2_206 + (0 : Int32)) (y4_206 + (1 : Int32)) _ _ _ hG (lv_sub hl [2, 1, 0] rfl) hn
        · have hf := ifT cq_26 hf
          refine lv_aload_n hx hb dX3_count_228 rfl (lv_at hl 0 rfl) ?_
          refine g_get hK hG B hinX3 0 rfl rfl 2 (by decide) m_16 rfl dX3_count_229 ?_
          refine lv_iload hx hb dX3_count_232 (lv_at hl 2 rfl) ?_
          obtain ⟨vq_27, hf⟩ := chk_s hf
          refine g_iald hK hG B 3 rfl vq_27 dX3_count_234 ?_
          refine lv_if_eq (tgt := 242) hx hb dX3_count_235 (by decide) (fun cq_28 => ?_) (fun cq_28 => ?_)
          · have hf := ifT cq_28 hf
            refine lv_iconst (v := 0) hx hb dX3_count_242 (by decide) ?_
            refine lv_iadd hx hb dX3_count_243 ?_
            refine lv_istore_n (lv' := [(2, .int (y2_206 + (0 : Int32))), (0, .ref h0), (4, .int y4_206)]) hx hb dX3_count_244 rfl hl (by decide) rfl (fun ls hl => ?_)
            refine lv_iinc (v := (y4_206 + (1 : Int32))) (lv' := [(4, .int (y4_206 + (1 : Int32))), (2, .int (y2_206 + (0 : Int32))), (0, .ref h0)]) hx hb dX3_count_245 hl (k := 2) rfl rfl (by decide) rfl (fun ls hl => ?_)
            refine lv_goto (tgt := 206) hx hb dX3_count_248 (by decide) ?_
            have hn := hn206 _ (Option.some.inj hf).symm
            exact ih (y2_206 + (0 : Int32)) (y4_206 + (1 : Int32)) _ _ _ hG (lv_sub hl [2, 1, 0] rfl) hn
          · have hf := ifF cq_28 hf
            refine lv_iconst (v := 1) hx hb dX3_count_238 (by decide) ?_
            refine lv_goto (tgt := 243) hx hb dX3_count_239 (by decide) ?_
            refine lv_iadd hx hb dX3_count_243 ?_
            refine lv_istore_n (lv' := [(2, .int (y2_206 + (1 : Int32))), (0, .ref h0), (4, .int y4_206)]) hx hb dX3_count_244 rfl hl (by decide) rfl (fun ls hl => ?_)
            refine lv_iinc (v := (y4_206 + (1 : Int32))) (lv' := [(4, .int (y4_206 + (1 : Int32))), (2, .int (y2_206 + (1 : Int32))), (0, .ref h0)]) hx hb dX3_count_245 hl (k := 2) rfl rfl (by decide) rfl (fun ls hl => ?_)
            refine lv_goto (tgt := 206) hx hb dX3_count_248 (by decide) ?_
            have hn := hn206 _ (Option.some.inj hf).symm
            exact ih (y2_206 + (1 : Int32)) (y4_206 + (1 : Int32)) _ _ _ hG (lv_sub hl [2, 1, 0] rfl) hn
  unfold f_X3_count at hf
  refine lv_iconst (v := 0) hx hb dX3_count_0 (by decide) ?_
  refine lv_istore_n (lv' := [(2, .int (0 : Int32)), (0, .ref h0), (1, .int x1)]) hx hb dX3_count_1 rfl hl (by decide) rfl (fun ls hl => ?_)
  refine lv_iconst (v := 0) hx hb dX3_count_2 (by decide) ?_
  refine lv_istore_n (lv' := [(3, .int (0 : Int32)), (2, .int (0 : Int32)), (0, .ref h0), (1, .int x1)]) hx hb dX3_count_3 rfl hl (by decide) rfl (fun ls hl => ?_)
  refine lv_iload_n hx hb dX3_count_4 rfl (lv_at hl 3 rfl) ?_
  by_cases cq_1 : x1 = (0 : Int32)
  · have hf := ifT cq_1 hf
    refine lv_tableIn (off := 39) (tgt := 44) hx hb dX3_count_5 (by rw [cq_1]; decide) (by rw [cq_1]; decide) (by rw [cq_1]; rfl) (by decide) ?_
    refine lv_iconst (v := 0) hx hb dX3_count_44 (by decide) ?_
    refine lv_istore (lv' := [(4, .int (0 : Int32)), (3, .int (0 : Int32)), (2, .int (0 : Int32)), (0, .ref h0), (1, .int x1)]) hx hb dX3_count_45 hl (by decide) rfl (fun ls hl => ?_)
    obtain ⟨zv_5, hizv_5, hf⟩ := ob hf
    refine L47 zv_5  (fun H locs ls ev_5 hres hG hl => ?_) 300 (0 : Int32) (0 : Int32) _ _ _ hG (lv_sub hl [3, 2, 0] rfl) hizv_5
    have hres := hres.symm
    subst hres
    refine lv_iload_n hx hb dX3_count_77 rfl (lv_at hl 0 rfl) ?_
    have hf := Option.some.inj hf
    exact g_iret hr hlk hK hG B rfl hf dX3_count_78
  have hf := ifF cq_1 hf
  by_cases cq_6 : x1 = (1 : Int32)
  · have hf := ifT cq_6 hf
    refine lv_tableIn (off := 74) (tgt := 79) hx hb dX3_count_5 (by rw [cq_6]; decide) (by rw [cq_6]; decide) (by rw [cq_6]; rfl) (by decide) ?_
    refine lv_iconst (v := 0) hx hb dX3_count_79 (by decide) ?_
    refine lv_istore (lv' := [(4, .int (0 : Int32)), (3, .int (0 : Int32)), (2, .int (0 : Int32)), (0, .ref h0), (1, .int x1)]) hx hb dX3_count_80 hl (by decide) rfl (fun ls hl => ?_)
    obtain ⟨zv_10, hizv_10, hf⟩ := ob hf
    refine L82 zv_10  (fun H locs ls ev_10 hres hG hl => ?_) 300 (0 : Int32) (0 : Int32) _ _ _ hG (lv_sub hl [3, 2, 0] rfl) hizv_10
    have hres := hres.symm
    subst hres
    refine lv_iload_n hx hb dX3_count_113 rfl (lv_at hl 0 rfl) ?_
    have hf := Option.some.inj hf
    exact g_iret hr hlk hK hG B rfl hf dX3_count_114
  have hf := ifF cq_6 hf
  by_cases cq_11 : x1 = (2 : Int32)
  · have hf := ifT cq_11 hf
    refine lv_tableIn (off := 110) (tgt := 115) hx hb dX3_count_5 (by rw [cq_11]; decide) (by rw [cq_11]; decide) (by rw [cq_11]; rfl) (by decide) ?_
    refine lv_aload_n hx hb dX3_count_115 rfl (lv_at hl 2 rfl) ?_
    refine g_get hK hG B hinX3 0 rfl rfl 7 (by decide) m_40 rfl dX3_count_116 ?_
    have hf := Option.some.inj hf
    exact g_iret hr hlk hK hG B rfl hf dX3_count_119
  have hf := ifF cq_11 hf
  by_cases cq_12 : x1 = (3 : Int32)
  · have hf := ifT cq_12 hf
    refine lv_tableIn (off := 115) (tgt := 120) hx hb dX3_count_5 (by rw [cq_12]; decide) (by rw [cq_12]; decide) (by rw [cq_12]; rfl) (by decide) ?_
    refine lv_aload_n hx hb dX3_count_120 rfl (lv_at hl 2 rfl) ?_
    refine g_get hK hG B hinX3 0 rfl rfl 8 (by decide) m_125 rfl dX3_count_121 ?_
    have hf := Option.some.inj hf
    exact g_iret hr hlk hK hG B rfl hf dX3_count_124
  have hf := ifF cq_12 hf
  by_cases cq_13 : x1 = (4 : Int32)
  · have hf := ifT cq_13 hf
    refine lv_tableIn (off := 120) (tgt := 125) hx hb dX3_count_5 (by rw [cq_13]; decide) (by rw [cq_13]; decide) (by rw [cq_13]; rfl) (by decide) ?_
    refine lv_iconst (v := 0) hx hb dX3_count_125 (by decide) ?_
    refine lv_istore (lv' := [(4, .int (0 : Int32)), (3, .int (0 : Int32)), (2, .int (0 : Int32)), (0, .ref h0), (1, .int x1)]) hx hb dX3_count_126 hl (by decide) rfl (fun ls hl => ?_)
    obtain ⟨zv_22, hizv_22, hf⟩ := ob hf
    refine L128 zv_22  (fun H locs ls ev_22 hres hG hl => ?_) 300 (0 : Int32) (0 : Int32) (0 : Int32) _ _ _ hG (lv_sub hl [3, 2, 1, 0] rfl) hizv_22
    have hres := hres.symm
    subst hres
    refine lv_iload_n hx hb dX3_count_201 rfl (lv_at hl 0 rfl) ?_
    have hf := Option.some.inj hf
    exact g_iret hr hlk hK hG B rfl hf dX3_count_202
  have hf := ifF cq_13 hf
  by_cases cq_23 : x1 = (5 : Int32)
  · have hf := ifT cq_23 hf
    refine lv_tableIn (off := 198) (tgt := 203) hx hb dX3_count_5 (by rw [cq_23]; decide) (by rw [cq_23]; decide) (by rw [cq_23]; rfl) (by decide) ?_
    refine lv_iconst (v := 0) hx hb dX3_count_203 (by decide) ?_
    refine lv_istore (lv' := [(4, .int (0 : Int32)), (3, .int (0 : Int32)), (2, .int (0 : Int32)), (0, .ref h0), (1, .int x1)]) hx hb dX3_count_204 hl (by decide) rfl (fun ls hl => ?_)
    obtain ⟨zv_29, hizv_29, hf⟩ := ob hf
    refine L206 zv_29  (fun H locs ls ev_29 hres hG hl => ?_) 300 (0 : Int32) (0 : Int32) _ _ _ hG (lv_sub hl [3, 2, 0] rfl) hizv_29
    have hres := hres.symm
    subst hres
    refine lv_iload_n hx hb dX3_count_251 rfl (lv_at hl 0 rfl) ?_
    have hf := Option.some.inj hf
    exact g_iret hr hlk hK hG B rfl hf dX3_count_252
  have hf := ifF cq_23 hf
  have ncq_1 := lv_neT cq_1 (a := 0) (by decide)
  have ncq_6 := lv_neT cq_6 (a := 1) (by decide)
  have ncq_11 := lv_neT cq_11 (a := 2) (by decide)
  have ncq_12 := lv_neT cq_12 (a := 3) (by decide)
  have ncq_13 := lv_neT cq_13 (a := 4) (by decide)
  have ncq_23 := lv_neT cq_23 (a := 5) (by decide)
  refine lv_tableOut (tgt := 253) hx hb dX3_count_5 (by omega) (by decide) ?_
  refine lv_iconst (v := -1) hx hb dX3_count_253 (by decide) ?_
  have hf := Option.some.inj hf
  exact g_iret hr hlk hK hG B rfl hf dX3_count_254
