def b_X3_nextEntry_5 (y1_5 : Int32) (y2_5 : Int32) (g : RS) (y3_5 : Int32) (y4_5 : Int32) : Option ((Int32) ⊕ (Int32 × Int32)) := (if (8 : Int32) ≤ y4_5 then some (.inl y3_5) else (chk (((8 : Int32) * y1_5) + y4_5) 96 ((if (R_pl g (((8 : Int32) * y1_5) + y4_5).toNatClampNeg) ≤ (0 : Int32) then (if (0 : Int32) = (0 : Int32) then some (.inr (y3_5, (y4_5 + (1 : Int32)))) else (if y3_5 < (0 : Int32) then some (.inr (y4_5, (y4_5 + (1 : Int32)))) else (chk (((8 : Int32) * y1_5) + y3_5) 96 ((if ((R_pl g (((8 : Int32) * y1_5) + y3_5).toNatClampNeg) - (R_pl g (((8 : Int32) * y1_5) + y3_5).toNatClampNeg) / (100 : Int32) * (100 : Int32)) ≤ ((R_pl g (((8 : Int32) * y1_5) + y4_5).toNatClampNeg) - (R_pl g (((8 : Int32) * y1_5) + y4_5).toNatClampNeg) / (100 : Int32) * (100 : Int32)) then some (.inr (y3_5, (y4_5 + (1 : Int32)))) else some (.inr (y4_5, (y4_5 + (1 : Int32))))))))) else (if ((R_pl g (((8 : Int32) * y1_5) + y4_5).toNatClampNeg) - (R_pl g (((8 : Int32) * y1_5) + y4_5).toNatClampNeg) / (100 : Int32) * (100 : Int32)) ≤ y2_5 then (if (0 : Int32) = (0 : Int32) then some (.inr (y3_5, (y4_5 + (1 : Int32)))) else (if y3_5 < (0 : Int32) then some (.inr (y4_5, (y4_5 + (1 : Int32)))) else (chk (((8 : Int32) * y1_5) + y3_5) 96 ((if ((R_pl g (((8 : Int32) * y1_5) + y3_5).toNatClampNeg) - (R_pl g (((8 : Int32) * y1_5) + y3_5).toNatClampNeg) / (100 : Int32) * (100 : Int32)) ≤ ((R_pl g (((8 : Int32) * y1_5) + y4_5).toNatClampNeg) - (R_pl g (((8 : Int32) * y1_5) + y4_5).toNatClampNeg) / (100 : Int32) * (100 : Int32)) then some (.inr (y3_5, (y4_5 + (1 : Int32)))) else some (.inr (y4_5, (y4_5 + (1 : Int32))))))))) else (if (1 : Int32) = (0 : Int32) then some (.inr (y3_5, (y4_5 + (1 : Int32)))) else (if y3_5 < (0 : Int32) then some (.inr (y4_5, (y4_5 + (1 : Int32)))) else (chk (((8 : Int32) * y1_5) + y3_5) 96 ((if ((R_pl g (((8 : Int32) * y1_5) + y3_5).toNatClampNeg) - (R_pl g (((8 : Int32) * y1_5) + y3_5).toNatClampNeg) / (100 : Int32) * (100 : Int32)) ≤ ((R_pl g (((8 : Int32) * y1_5) + y4_5).toNatClampNeg) - (R_pl g (((8 : Int32) * y1_5) + y4_5).toNatClampNeg) / (100 : Int32) * (100 : Int32)) then some (.inr (y3_5, (y4_5 + (1 : Int32)))) else some (.inr (y4_5, (y4_5 + (1 : Int32))))))))))))))
def f_X3_nextEntry (x1 : Int32) (x2 : Int32) (g : RS) : Option Int32 := ((itl (fun a : Int32 × Int32 => b_X3_nextEntry_5 x1 x2 g a.1 a.2) 300 ((-1 : Int32), (0 : Int32))).bind (fun ev_17 => some ev_17))
set_option maxHeartbeats 4000000 in
set_option maxRecDepth 100000 in
theorem c_X3_nextEntry (l : Launch) (D : va_G) (cI cJ : ClassId) (h0 qk qs qp qw qr qo qn sz : Nat) (g : RS) (x1 : Int32) (x2 : Int32) (r : Int32) (hf : f_X3_nextEntry x1 x2 g = some r) : Met l yX3_nextEntry wsX3_nextEntry { frames := 0, cells := 0, slots := 0, locals := 0 } (gPc D (gT cI cJ) sz (wR h0 qk qs qp qw qr qo qn cI cJ g) [.ref h0, .int x1, .int x2]) (gQi D (gT cI cJ) (va_A (wR h0 qk qs qp qw qr qo qn cI cJ g) sz) r (wR h0 qk qs qp qw qr qo qn cI cJ g)) 0 0 (va_A (wR h0 qk qs qp qw qr qo qn cI cJ g) sz) := by
  refine gMet (cc := cX3_nextEntry) (maxL := 7) (ret := (some .int)) (by decide) rfl ?_ (Nat.le_of_ble_eq_true rfl)
  intro p e0 s m below meth c ls B hr hlk hsz hK hG hl
  have hA : ∀ q : Nat, s.heap.size ≤ q → va_A (wR h0 qk qs qp qw qr qo qn cI cJ g) sz q := fun q h => Or.inr (hsz ▸ h)
  have hx := B.1
  have hb := B.2.1
  have hts := B.2.2.2.2
  have hl : lv_has ls 7 [(0, .ref h0), (1, .int x1), (2, .int x2)] := hl
  generalize va_A (wR h0 qk qs qp qw qr qo qn cI cJ g) sz = A at hA hG ⊢
  have hinX3 : ∀ x ∈ wsX30, x ∈ wsX3_nextEntry := by decide +kernel
  have m_16 : Cond.fieldLink RX3 16 "BlockMoverModel" "places" "[I" ∈ wsX3_nextEntry := by decide +kernel
  have L5 : ∀ (res : (Int32)) (y1_5 : Int32) (y2_5 : Int32), (∀ (H1 : Heap) (locs1 : List Loc) (ls1 : Array Slot) (e : Int32), res = e → gG D A s.heap (wR h0 qk qs qp qw qr qo qn cI cJ g) H1 locs1 → lv_has ls1 7 [(3, .int e)] → W p l e0 { frames := 0, cells := 0, slots := 0, locals := 0 } s m ([.ref h0, .int x1, .int x2] : List Value).toArray below meth c H1 locs1 0 0 (MQ below (gQi D (gT cI cJ) A r (wR h0 qk qs qp qw qr qo qn cI cJ g)) ([.ref h0, .int x1, .int x2] : List Value).toArray s 0 0 A) (F0 m 91 ls1 [])) → ∀ (n : Nat) (y3_5 : Int32) (y4_5 : Int32) (H : Heap) (locs : List Loc) (ls : Array Slot), gG D A s.heap (wR h0 qk qs qp qw qr qo qn cI cJ g) H locs → lv_has ls 7 [(0, .ref h0), (1, .int y1_5), (2, .int y2_5), (3, .int y3_5), (4, .int y4_5)] → itl (fun a : Int32 × Int32 => b_X3_nextEntry_5 y1_5 y2_5 g a.1 a.2) n (y3_5, y4_5) = some res → W p l e0 { frames := 0, cells := 0, slots := 0, locals := 0 } s m ([.ref h0, .int x1, .int x2] : List Value).toArray below meth c H locs 0 0 (MQ below (gQi D (gT cI cJ) A r (wR h0 qk qs qp qw qr qo qn cI cJ g)) ([.ref h0, .int x1, .int x2] : List Value).toArray s 0 0 A) (F0 m 5 ls []) := by
    intro res y1_5 y2_5 hKe5 n
    induction n with
    | zero => exact fun y3_5 y4_5 H locs ls hG hl hf => (itl_0 hf).elim
    | succ n ih =>
      intro y3_5 y4_5 H locs ls hG hl hf
      obtain ⟨o, hf, ho5, hn5⟩ := itl_s hf
      have hf : b_X3_nextEntry_5 y1_5 y2_5 g y3_5 y4_5 = some o := hf
      unfold b_X3_nextEntry_5 at hf
      refine lv_iload hx hb dX3_nextEntry_5 (lv_at hl 4 rfl) ?_
      refine lv_bipush (v := 8) hx hb dX3_nextEntry_7 (by decide) ?_
      refine lv_icmp_ge (tgt := 91) hx hb dX3_nextEntry_9 (by decide) (fun cq_1 => ?_) (fun cq_1 => ?_)
      · have hf := ifT cq_1 hf
        have hres := ho5 _ (Option.some.inj hf).symm
        exact hKe5 _ _ _ y3_5 hres.symm hG (lv_sub hl [3] rfl)
      · have hf := ifF cq_1 hf
        refine lv_aload_n hx hb dX3_nextEntry_12 rfl (lv_at hl 0 rfl) ?_
        refine g_get hK hG B hinX3 0 rfl rfl 2 (by decide) m_16 rfl dX3_nextEntry_13 ?_
        refine lv_bipush (v := 8) hx hb dX3_nextEntry_16 (by decide) ?_
        refine lv_iload_n hx hb dX3_nextEntry_18 rfl (lv_at hl 1 rfl) ?_
        refine lv_imul hx hb dX3_nextEntry_19 ?_
        refine lv_iload hx hb dX3_nextEntry_20 (lv_at hl 4 rfl) ?_
        refine lv_iadd hx hb dX3_nextEntry_22 ?_
        obtain ⟨vq_2, hf⟩ := chk_s hf
        refine g_iald hK hG B 3 rfl vq_2 dX3_nextEntry_23 ?_
        refine lv_istore (lv' := [(5, .int (R_pl g (((8 : Int32) * y1_5) + y4_5).toNatClampNeg)), (0, .ref h0), (1, .int y1_5), (2, .int y2_5), (3, .int y3_5), (4, .int y4_5)]) hx hb dX3_nextEntry_24 hl (by decide) rfl (fun ls hl => ?_)
        refine lv_iload hx hb dX3_nextEntry_26 (lv_at hl 0 rfl) ?_
        refine lv_if_le (tgt := 44) hx hb dX3_nextEntry_28 (by decide) (fun cq_3 => ?_) (fun cq_3 => ?_)
        · have hf := ifT cq_3 hf
          refine lv_iconst (v := 0) hx hb dX3_nextEntry_44 (by decide) ?_
          refine lv_istore (lv' := [(6, .int (0 : Int32)), (5, .int (R_pl g (((8 : Int32) * y1_5) + y4_5).toNatClampNeg)), (0, .ref h0), (1, .int y1_5), (2, .int y2_5), (3, .int y3_5), (4, .int y4_5)]) hx hb dX3_nextEntry_45 hl (by decide) rfl (fun ls hl => ?_)
          refine lv_iload hx hb dX3_nextEntry_47 (lv_at hl 0 rfl) ?_
          refine lv_if_eq (tgt := 83) hx hb dX3_nextEntry_49 (by decide) (fun cq_4 => ?_) (fun cq_4 => ?_)
          · have hf := ifT cq_4 hf
            refine lv_iload_n hx hb dX3_nextEntry_83 rfl (lv_at hl 5 rfl) ?_
            refine lv_istore_n (lv' := [(3, .int y3_5), (6, .int (0 : Int32)), (5, .int (R_pl g (((8 : Int32) * y1_5) + y4_5).toNatClampNeg)), (0, .ref h0), (1, .int y1_5), (2, .int y2_5), (4, .int y4_5)]) hx hb dX3_nextEntry_84 rfl hl (by decide) rfl (fun ls hl => ?_)
            refine lv_iinc (v := (y4_5 + (1 : Int32))) (lv' := [(4, .int (y4_5 + (1 : Int32))), (3, .int y3_5), (6, .int (0 : Int32)), (5, .int (R_pl g (((8 : Int32) * y1_5) + y4_5).toNatClampNeg)), (0, .ref h0), (1, .int y1_5), (2, .int y2_5)]) hx hb dX3_nextEntry_85 hl (k := 6) rfl rfl (by decide) rfl (fun ls hl => ?_)
            refine lv_goto (tgt := 5) hx hb dX3_nextEntry_88 (by decide) ?_
            have hn := hn5 _ (Option.some.inj hf).symm
            exact ih y3_5 (y4_5 + (1 : Int32)) _ _ _ hG (lv_sub hl [4, 5, 6, 1, 0] rfl) hn
          · have hf := ifF cq_4 hf
            refine lv_iload_n hx hb dX3_nextEntry_52 rfl (lv_at hl 5 rfl) ?_
            refine lv_if_lt (tgt := 78) hx hb dX3_nextEntry_53 (by decide) (fun cq_5 => ?_) (fun cq_5 => ?_)
            · have hf := ifT cq_5 hf
              refine lv_iload hx hb dX3_nextEntry_78 (lv_at hl 6 rfl) ?_
              refine lv_goto (tgt := 84) hx hb dX3_nextEntry_80 (by decide) ?_
              refine lv_istore_n (lv' := [(3, .int y4_5), (6, .int (0 : Int32)), (5, .int (R_pl g (((8 : Int32) * y1_5) + y4_5).toNatClampNeg)), (0, .ref h0), (1, .int y1_5), (2, .int y2_5), (4, .int y4_5)]) hx hb dX3_nextEntry_84 rfl hl (by decide) rfl (fun ls hl => ?_)
              refine lv_iinc (v := (y4_5 + (1 : Int32))) (lv' := [(4, .int (y4_5 + (1 : Int32))), (3, .int y4_5), (6, .int (0 : Int32)), (5, .int (R_pl g (((8 : Int32) * y1_5) + y4_5).toNatClampNeg)), (0, .ref h0), (1, .int y1_5), (2, .int y2_5)]) hx hb dX3_nextEntry_85 hl (k := 6) rfl rfl (by decide) rfl (fun ls hl => ?_)
              refine lv_goto (tgt := 5) hx hb dX3_nextEntry_88 (by decide) ?_
              have hn := hn5 _ (Option.some.inj hf).symm
              exact ih y4_5 (y4_5 + (1 : Int32)) _ _ _ hG (lv_sub hl [4, 5, 6, 1, 0] rfl) hn
            · have hf := ifF cq_5 hf
              refine lv_iload hx hb dX3_nextEntry_56 (lv_at hl 1 rfl) ?_
              refine lv_bipush (v := 100) hx hb dX3_nextEntry_58 (by decide) ?_
              refine lv_irem hx hb dX3_nextEntry_60 (by decide) ?_
              refine lv_aload_n hx hb dX3_nextEntry_61 rfl (lv_at hl 2 rfl) ?_
              refine g_get hK hG B hinX3 0 rfl rfl 2 (by decide) m_16 rfl dX3_nextEntry_62 ?_
              refine lv_bipush (v := 8) hx hb dX3_nextEntry_65 (by decide) ?_
              refine lv_iload_n hx hb dX3_nextEntry_67 rfl (lv_at hl 3 rfl) ?_
              refine lv_imul hx hb dX3_nextEntry_68 ?_
              refine lv_iload_n hx hb dX3_nextEntry_69 rfl (lv_at hl 5 rfl) ?_
              refine lv_iadd hx hb dX3_nextEntry_70 ?_
              obtain ⟨vq_6, hf⟩ := chk_s hf
              refine g_iald hK hG B 3 rfl vq_6 dX3_nextEntry_71 ?_
              refine lv_bipush (v := 100) hx hb dX3_nextEntry_72 (by decide) ?_
              refine lv_irem hx hb dX3_nextEntry_74 (by decide) ?_
              refine lv_icmp_ge (tgt := 83) hx hb dX3_nextEntry_75 (by decide) (fun cq_7 => ?_) (fun cq_7 => ?_)
              · have hf := ifT cq_7 hf
                refine lv_iload_n hx hb dX3_nextEntry_83 rfl (lv_at hl 5 rfl) ?_
                refine lv_istore_n (lv' := [(3, .int y3_5), (6, .int (0 : Int32)), (5, .int (R_pl g (((8 : Int32) * y1_5) + y4_5).toNatClampNeg)), (0, .ref h0), (1, .int y1_5), (2, .int y2_5), (4, .int y4_5)]) hx hb dX3_nextEntry_84 rfl hl (by decide) rfl (fun ls hl => ?_)
                refine lv_iinc (v := (y4_5 + (1 : Int32))) (lv' := [(4, .int (y4_5 + (1 : Int32))), (3, .int y3_5), (6, .int (0 : Int32)), (5, .int (R_pl g (((8 : Int32) * y1_5) + y4_5).toNatClampNeg)), (0, .ref h0), (1, .int y1_5), (2, .int y2_5)]) hx hb dX3_nextEntry_85 hl (k := 6) rfl rfl (by decide) rfl (fun ls hl => ?_)
                refine lv_goto (tgt := 5) hx hb dX3_nextEntry_88 (by decide) ?_
                have hn := hn5 _ (Option.some.inj hf).symm
                exact ih y3_5 (y4_5 + (1 : Int32)) _ _ _ hG (lv_sub hl [4, 5, 6, 1, 0] rfl) hn
              · have hf := ifF cq_7 hf
                refine lv_iload hx hb dX3_nextEntry_78 (lv_at hl 6 rfl) ?_
                refine lv_goto (tgt := 84) hx hb dX3_nextEntry_80 (by decide) ?_
                refine lv_istore_n (lv' := [(3, .int y4_5), (6, .int (0 : Int32)), (5, .int (R_pl g (((8 : Int32) * y1_5) + y4_5).toNatClampNeg)), (0, .ref h0), (1, .int y1_5), (2, .int y2_5), (4, .int y4_5)]) hx hb dX3_nextEntry_84 rfl hl (by decide) rfl (fun ls hl => ?_)
                refine lv_iinc (v := (y4_5 + (1 : Int32))) (lv' := [(4, .int (y4_5 + (1 : Int32))), (3, .int y4_5), (6, .int (0 : Int32)), (5, .int (R_pl g (((8 : Int32) * y1_5) + y4_5).toNatClampNeg)), (0, .ref h0), (1, .int y1_5), (2, .int y2_5)]) hx hb dX3_nextEntry_85 hl (k := 6) rfl rfl (by decide) rfl (fun ls hl => ?_)
                refine lv_goto (tgt := 5) hx hb dX3_nextEntry_88 (by decide) ?_
                have hn := hn5 _ (Option.some.inj hf).symm
                exact ih y4_5 (y4_5 + (1 : Int32)) _ _ _ hG (lv_sub hl [4, 5, 6, 1, 0] rfl) hn
        · have hf := ifF cq_3 hf
          refine lv_iload hx hb dX3_nextEntry_31 (lv_at hl 0 rfl) ?_
          refine lv_bipush (v := 100) hx hb dX3_nextEntry_33 (by decide) ?_
          refine lv_irem hx hb dX3_nextEntry_35 (by decide) ?_
          refine lv_iload_n hx hb dX3_nextEntry_36 rfl (lv_at hl 3 rfl) ?_
          refine lv_icmp_le (tgt := 44) hx hb dX3_nextEntry_37 (by decide) (fun cq_8 => ?_) (fun cq_8 => ?_)
          · have hf := ifT cq_8 hf
            refine lv_iconst (v := 0) hx hb dX3_nextEntry_44 (by decide) ?_
            refine lv_istore (lv' := [(6, .int (0 : Int32)), (5, .int (R_pl g (((8 : Int32) * y1_5) + y4_5).toNatClampNeg)), (0, .ref h0), (1, .int y1_5), (2, .int y2_5), (3, .int y3_5), (4, .int y4_5)]) hx hb dX3_nextEntry_45 hl (by decide) rfl (fun ls hl => ?_)
            refine lv_iload hx hb dX3_nextEntry_47 (lv_at hl 0 rfl) ?_
            refine lv_if_eq (tgt := 83) hx hb dX3_nextEntry_49 (by decide) (fun cq_9 => ?_) (fun cq_9 => ?_)
            · have hf := ifT cq_9 hf
              refine lv_iload_n hx hb dX3_nextEntry_83 rfl (lv_at hl 5 rfl) ?_
              refine lv_istore_n (lv' := [(3, .int y3_5), (6, .int (0 : Int32)), (5, .int (R_pl g (((8 : Int32) * y1_5) + y4_5).toNatClampNeg)), (0, .ref h0), (1, .int y1_5), (2, .int y2_5), (4, .int y4_5)]) hx hb dX3_nextEntry_84 rfl hl (by decide) rfl (fun ls hl => ?_)
              refine lv_iinc (v := (y4_5 + (1 : Int32))) (lv' := [(4, .int (y4_5 + (1 : Int32))), (3, .int y3_5), (6, .int (0 : Int32)), (5, .int (R_pl g (((8 : Int32) * y1_5) + y4_5).toNatClampNeg)), (0, .ref h0), (1, .int y1_5), (2, .int y2_5)]) hx hb dX3_nextEntry_85 hl (k := 6) rfl rfl (by decide) rfl (fun ls hl => ?_)
              refine lv_goto (tgt := 5) hx hb dX3_nextEntry_88 (by decide) ?_
              have hn := hn5 _ (Option.some.inj hf).symm
              exact ih y3_5 (y4_5 + (1 : Int32)) _ _ _ hG (lv_sub hl [4, 5, 6, 1, 0] rfl) hn
            · have hf := ifF cq_9 hf
              refine lv_iload_n hx hb dX3_nextEntry_52 rfl (lv_at hl 5 rfl) ?_
              refine lv_if_lt (tgt := 78) hx hb dX3_nextEntry_53 (by decide) (fun cq_10 => ?_) (fun cq_10 => ?_)
              · have hf := ifT cq_10 hf
                refine lv_iload hx hb dX3_nextEntry_78 (lv_at hl 6 rfl) ?_
                refine lv_goto (tgt := 84) hx hb dX3_nextEntry_80 (by decide) ?_
                refine lv_istore_n (lv' := [(3, .int y4_5), (6, .int (0 : Int32)), (5, .int (R_pl g (((8 : Int32) * y1_5) + y4_5).toNatClampNeg)), (0, .ref h0), (1, .int y1_5), (2, .int y2_5), (4, .int y4_5)]) hx hb dX3_nextEntry_84 rfl hl (by decide) rfl (fun ls hl => ?_)
                refine lv_iinc (v := (y4_5 + (1 : Int32))) (lv' := [(4, .int (y4_5 + (1 : Int32))), (3, .int y4_5), (6, .int (0 : Int32)), (5, .int (R_pl g (((8 : Int32) * y1_5) + y4_5).toNatClampNeg)), (0, .ref h0), (1, .int y1_5), (2, .int y2_5)]) hx hb dX3_nextEntry_85 hl (k := 6) rfl rfl (by decide) rfl (fun ls hl => ?_)
                refine lv_goto (tgt := 5) hx hb dX3_nextEntry_88 (by decide) ?_
                have hn := hn5 _ (Option.some.inj hf).symm
                exact ih y4_5 (y4_5 + (1 : Int32)) _ _ _ hG (lv_sub hl [4, 5, 6, 1, 0] rfl) hn
              · have hf := ifF cq_10 hf
                refine lv_iload hx hb dX3_nextEntry_56 (lv_at hl 1 rfl) ?_
                refine lv_bipush (v := 100) hx hb dX3_nextEntry_58 (by decide) ?_
                refine lv_irem hx hb dX3_nextEntry_60 (by decide) ?_
                refine lv_aload_n hx hb dX3_nextEntry_61 rfl (lv_at hl 2 rfl) ?_
                refine g_get hK hG B hinX3 0 rfl rfl 2 (by decide) m_16 rfl dX3_nextEntry_62 ?_
                refine lv_bipush (v := 8) hx hb dX3_nextEntry_65 (by decide) ?_
                refine lv_iload_n hx hb dX3_nextEntry_67 rfl (lv_at hl 3 rfl) ?_
                refine lv_imul hx hb dX3_nextEntry_68 ?_
                refine lv_iload_n hx hb dX3_nextEntry_69 rfl (lv_at hl 5 rfl) ?_
                refine lv_iadd hx hb dX3_nextEntry_70 ?_
                obtain ⟨vq_11, hf⟩ := chk_s hf
                refine g_iald hK hG B 3 rfl vq_11 dX3_nextEntry_71 ?_
                refine lv_bipush (v := 100) hx hb dX3_nextEntry_72 (by decide) ?_
                refine lv_irem hx hb dX3_nextEntry_74 (by decide) ?_
                refine lv_icmp_ge (tgt := 83) hx hb dX3_nextEntry_75 (by decide) (fun cq_12 => ?_) (fun cq_12 => ?_)
                · have hf := ifT cq_12 hf
                  refine lv_iload_n hx hb dX3_nextEntry_83 rfl (lv_at hl 5 rfl) ?_
                  refine lv_istore_n (lv' := [(3, .int y3_5), (6, .int (0 : Int32)), (5, .int (R_pl g (((8 : Int32) * y1_5) + y4_5).toNatClampNeg)), (0, .ref h0), (1, .int y1_5), (2, .int y2_5), (4, .int y4_5)]) hx hb dX3_nextEntry_84 rfl hl (by decide) rfl (fun ls hl => ?_)
                  refine lv_iinc (v := (y4_5 + (1 : Int32))) (lv' := [(4, .int (y4_5 + (1 : Int32))), (3, .int y3_5), (6, .int (0 : Int32)), (5, .int (R_pl g (((8 : Int32) * y1_5) + y4_5).toNatClampNeg)), (0, .ref h0), (1, .int y1_5), (2, .int y2_5)]) hx hb dX3_nextEntry_85 hl (k := 6) rfl rfl (by decide) rfl (fun ls hl => ?_)
                  refine lv_goto (tgt := 5) hx hb dX3_nextEntry_88 (by decide) ?_
                  have hn := hn5 _ (Option.some.inj hf).symm
                  exact ih y3_5 (y4_5 + (1 : Int32)) _ _ _ hG (lv_sub hl [4, 5, 6, 1, 0] rfl) hn
                · have hf := ifF cq_12 hf
                  refine lv_iload hx hb dX3_nextEntry_78 (lv_at hl 6 rfl) ?_
                  refine lv_goto (tgt := 84) hx hb dX3_nextEntry_80 (by decide) ?_
                  refine lv_istore_n (lv' := [(3, .int y4_5), (6, .int (0 : Int32)), (5, .int (R_pl g (((8 : Int32) * y1_5) + y4_5).toNatClampNeg)), (0, .ref h0), (1, .int y1_5), (2, .int y2_5), (4, .int y4_5)]) hx hb dX3_nextEntry_84 rfl hl (by decide) rfl (fun ls hl => ?_)
                  refine lv_iinc (v := (y4_5 + (1 : Int32))) (lv' := [(4, .int (y4_5 + (1 : Int32))), (3, .int y4_5), (6, .int (0 : Int32)), (5, .int (R_pl g (((8 : Int32) * y1_5) + y4_5).toNatClampNeg)), (0, .ref h0), (1, .int y1_5), (2, .int y2_5)]) hx hb dX3_nextEntry_85 hl (k := 6) rfl rfl (by decide) rfl (fun ls hl => ?_)
                  refine lv_goto (tgt := 5) hx hb dX3_nextEntry_88 (by decide) ?_
                  have hn := hn5 _ (Option.some.inj hf).symm
                  exact ih y4_5 (y4_5 + (1 : Int32)) _ _ _ hG (lv_sub hl [4, 5, 6, 1, 0] rfl) hn
          · have hf := ifF cq_8 hf
            refine lv_iconst (v := 1) hx hb dX3_nextEntry_40 (by decide) ?_
            refine lv_goto (tgt := 45) hx hb dX3_nextEntry_41 (by decide) ?_
            refine lv_istore (lv' := [(6, .int (1 : Int32)), (5, .int (R_pl g (((8 : Int32) * y1_5) + y4_5).toNatClampNeg)), (0, .ref h0), (1, .int y1_5), (2, .int y2_5), (3, .int y3_5), (4, .int y4_5)]) hx hb dX3_nextEntry_45 hl (by decide) rfl (fun ls hl => ?_)
            refine lv_iload hx hb dX3_nextEntry_47 (lv_at hl 0 rfl) ?_
            refine lv_if_eq (tgt := 83) hx hb dX3_nextEntry_49 (by decide) (fun cq_13 => ?_) (fun cq_13 => ?_)
            · have hf := ifT cq_13 hf
              refine lv_iload_n hx hb dX3_nextEntry_83 rfl (lv_at hl 5 rfl) ?_
              refine lv_istore_n (lv' := [(3, .int y3_5), (6, .int (1 : Int32)), (5, .int (R_pl g (((8 : Int32) * y1_5) + y4_5).toNatClampNeg)), (0, .ref h0), (1, .int y1_5), (2, .int y2_5), (4, .int y4_5)]) hx hb dX3_nextEntry_84 rfl hl (by decide) rfl (fun ls hl => ?_)
              refine lv_iinc (v := (y4_5 + (1 : Int32))) (lv' := [(4, .int (y4_5 + (1 : Int32))), (3, .int y3_5), (6, .int (1 : Int32)), (5, .int (R_pl g (((8 : Int32) * y1_5) + y4_5).toNatClampNeg)), (0, .ref h0), (1, .int y1_5), (2, .int y2_5)]) hx hb dX3_nextEntry_85 hl (k := 6) rfl rfl (by decide) rfl (fun ls hl => ?_)
              refine lv_goto (tgt := 5) hx hb dX3_nextEntry_88 (by decide) ?_
              have hn := hn5 _ (Option.some.inj hf).symm
              exact ih y3_5 (y4_5 + (1 : Int32)) _ _ _ hG (lv_sub hl [4, 5, 6, 1, 0] rfl) hn
            · have hf := ifF cq_13 hf
              refine lv_iload_n hx hb dX3_nextEntry_52 rfl (lv_at hl 5 rfl) ?_
              refine lv_if_lt (tgt := 78) hx hb dX3_nextEntry_53 (by decide) (fun cq_14 => ?_) (fun cq_14 => ?_)
              · have hf := ifT cq_14 hf
                refine lv_iload hx hb dX3_nextEntry_78 (lv_at hl 6 rfl) ?_
                refine lv_goto (tgt := 84) hx hb dX3_nextEntry_80 (by decide) ?_
                refine lv_istore_n (lv' := [(3, .int y4_5), (6, .int (1 : Int32)), (5, .int (R_pl g (((8 : Int32) * y1_5) + y4_5).toNatClampNeg)), (0, .ref h0), (1, .int y1_5), (2, .int y2_5), (4, .int y4_5)]) hx hb dX3_nextEntry_84 rfl hl (by decide) rfl (fun ls hl => ?_)
                refine lv_iinc (v := (y4_5 + (1 : Int32))) (lv' := [(4, .int (y4_5 + (1 : Int32))), (3, .int y4_5), (6, .int (1 : Int32)), (5, .int (R_pl g (((8 : Int32) * y1_5) + y4_5).toNatClampNeg)), (0, .ref h0), (1, .int y1_5), (2, .int y2_5)]) hx hb dX3_nextEntry_85 hl (k := 6) rfl rfl (by decide) rfl (fun ls hl => ?_)
                refine lv_goto (tgt := 5) hx hb dX3_nextEntry_88 (by decide) ?_
                have hn := hn5 _ (Option.some.inj hf).symm
                exact ih y4_5 (y4_5 + (1 : Int32)) _ _ _ hG (lv_sub hl [4, 5, 6, 1, 0] rfl) hn
              · have hf := ifF cq_14 hf
                refine lv_iload hx hb dX3_nextEntry_56 (lv_at hl 1 rfl) ?_
                refine lv_bipush (v := 100) hx hb dX3_nextEntry_58 (by decide) ?_
                refine lv_irem hx hb dX3_nextEntry_60 (by decide) ?_
                refine lv_aload_n hx hb dX3_nextEntry_61 rfl (lv_at hl 2 rfl) ?_
                refine g_get hK hG B hinX3 0 rfl rfl 2 (by decide) m_16 rfl dX3_nextEntry_62 ?_
                refine lv_bipush (v := 8) hx hb dX3_nextEntry_65 (by decide) ?_
                refine lv_iload_n hx hb dX3_nextEntry_67 rfl (lv_at hl 3 rfl) ?_
                refine lv_imul hx hb dX3_nextEntry_68 ?_
                refine lv_iload_n hx hb dX3_nextEntry_69 rfl (lv_at hl 5 rfl) ?_
                refine lv_iadd hx hb dX3_nextEntry_70 ?_
                obtain ⟨vq_15, hf⟩ := chk_s hf
                refine g_iald hK hG B 3 rfl vq_15 dX3_nextEntry_71 ?_
                refine lv_bipush (v := 100) hx hb dX3_nextEntry_72 (by decide) ?_
                refine lv_irem hx hb dX3_nextEntry_74 (by decide) ?_
                refine lv_icmp_ge (tgt := 83) hx hb dX3_nextEntry_75 (by decide) (fun cq_16 => ?_) (fun cq_16 => ?_)
                · have hf := ifT cq_16 hf
                  refine lv_iload_n hx hb dX3_nextEntry_83 rfl (lv_at hl 5 rfl) ?_
                  refine lv_istore_n (lv' := [(3, .int y3_5), (6, .int (1 : Int32)), (5, .int (R_pl g (((8 : Int32) * y1_5) + y4_5).toNatClampNeg)), (0, .ref h0), (1, .int y1_5), (2, .int y2_5), (4, .int y4_5)]) hx hb dX3_nextEntry_84 rfl hl (by decide) rfl (fun ls hl => ?_)
                  refine lv_iinc (v := (y4_5 + (1 : Int32))) (lv' := [(4, .int (y4_5 + (1 : Int32))), (3, .int y3_5), (6, .int (1 : Int32)), (5, .int (R_pl g (((8 : Int32) * y1_5) + y4_5).toNatClampNeg)), (0, .ref h0), (1, .int y1_5), (2, .int y2_5)]) hx hb dX3_nextEntry_85 hl (k := 6) rfl rfl (by decide) rfl (fun ls hl => ?_)
                  refine lv_goto (tgt := 5) hx hb dX3_nextEntry_88 (by decide) ?_
                  have hn := hn5 _ (Option.some.inj hf).symm
                  exact ih y3_5 (y4_5 + (1 : Int32)) _ _ _ hG (lv_sub hl [4, 5, 6, 1, 0] rfl) hn
                · have hf := ifF cq_16 hf
                  refine lv_iload hx hb dX3_nextEntry_78 (lv_at hl 6 rfl) ?_
                  refine lv_goto (tgt := 84) hx hb dX3_nextEntry_80 (by decide) ?_
                  refine lv_istore_n (lv' := [(3, .int y4_5), (6, .int (1 : Int32)), (5, .int (R_pl g (((8 : Int32) * y1_5) + y4_5).toNatClampNeg)), (0, .ref h0), (1, .int y1_5), (2, .int y2_5), (4, .int y4_5)]) hx hb dX3_nextEntry_84 rfl hl (by decide) rfl (fun ls hl => ?_)
                  refine lv_iinc (v := (y4_5 + (1 : Int32))) (lv' := [(4, .int (y4_5 + (1 : Int32))), (3, .int y4_5), (6, .int (1 : Int32)), (5, .int (R_pl g (((8 : Int32) * y1_5) + y4_5).toNatClampNeg)), (0, .ref h0), (1, .int y1_5), (2, .int y2_5)]) hx hb dX3_nextEntry_85 hl (k := 6) rfl rfl (by decide) rfl (fun ls hl => ?_)
                  refine lv_goto (tgt := 5) hx hb dX3_nextEntry_88 (by decide) ?_
                  have hn := hn5 _ (Option.some.inj hf).symm
                  exact ih y4_5 (y4_5 + (1 : Int32)) _ _ _ hG (lv_sub hl [4, 5, 6, 1, 0] rfl) hn
  unfold f_X3_nextEntry at hf
  refine lv_iconst (v := -1) hx hb dX3_nextEntry_0 (by decide) ?_
  refine lv_istore_n (lv' := [(3, .int (-1 : Int32)), (0, .ref h0), (1, .int x1), (2, .int x2)]) hx hb dX3_nextEntry_1 rfl hl (by decide) rfl (fun ls hl => ?_)
  refine lv_iconst (v := 0) hx hb dX3_nextEntry_2 (by decide) ?_
  refine lv_istore (lv' := [(4, .int (0 : Int32)), (3, .int (-1 : Int32)), (0, .ref h0), (1, .int x1), (2, .int x2)]) hx hb dX3_nextEntry_3 hl (by decide) rfl (fun ls hl => ?_)
  obtain ⟨zv_17, hizv_17, hf⟩ := ob hf
  refine L5 zv_17 x1 x2 (fun H locs ls ev_17 hres hG hl => ?_) 300 (-1 : Int32) (0 : Int32) _ _ _ hG (lv_sub hl [2, 3, 4, 1, 0] rfl) hizv_17
  have hres := hres.symm
  subst hres
  refine lv_iload_n hx hb dX3_nextEntry_91 rfl (lv_at hl 0 rfl) ?_
  have hf := Option.some.inj hf
  exact g_iret hr hlk hK hG B rfl hf dX3_nextEntry_92
