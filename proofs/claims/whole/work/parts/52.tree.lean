/-- one entry passed on both sides, then the rest -/
theorem TT_step {n N d dp nm nn kk s1 : Nat} {h h1 : Int64} {c c1 : CS} {r r1 : RS} {E : Int32} (e1 : f_X2_entryBehindName (nI d) (nI nm) c = some E)
    (hc : ∀ E1, f_X2_entryBehindName (nI d) (nI nn) c1 = some E1 → b_X2_hashOfDirectory_20 (f_hI n) (nI d) (nI dp) h E (nI kk) c = some (.inr (h1, E1, nI (kk + 1), c1)))
    (hr : ∀ f, itl bT (s1 + f) (h, C_met c, nI (dp + 1), r) = itl bT f (h1, C_met c1, nI (dp + 1), r1)) (hSC : SC c c1) (hSR : SR r r1) (hkp : ∀ x, x < dp → R_op r1 x = R_op r x ∧ R_ln r1 x = R_ln r x) (hm : mc (C_met c) ≤ mc (C_met c1)) (hs : s1 + 9 * mc (C_met c) ≤ 1 + 9 * mc (C_met c1))
    (ih : TT n N d dp nn (kk + 1) h1 c1 r1) : TT n (N + 1) d dp nm kk h c r := by
  obtain ⟨h', c', r', s, E1, g1, g2, g3, g4, g5, g6, g7, g8⟩ := ih
  refine ⟨h', c', r', s1 + s, E, e1, fun fc hfc => ?_, fun f => ?_, SC_t hSC g4, SR_t hSR g5, fun x hx => ⟨(g6 x hx).1.trans (hkp x hx).1, (g6 x hx).2.trans (hkp x hx).2⟩, Nat.le_trans hm g7, by omega⟩
  · obtain ⟨fc, rfl⟩ : ∃ z, fc = z + 1 := ⟨fc - 1, by omega⟩
    exact Eq.trans (itl_step (b := bH n (nI d) (nI dp)) (a := (h, E, nI kk, c)) (a' := (h1, E1, nI (kk + 1), c1)) fc (hc E1 g1)) (g2 fc (by omega))
  · rw [Nat.add_assoc, hr (s + f)]
    exact g3 f
set_option maxHeartbeats 1000000 in
theorem tr_T : ∀ (n N d dp nm kk : Nat) (h : Int64) (c : CS) (r : RS), RW c r → WI (R_kind r) (R_size r) (R_pl r) (R_rec r) → d < 12 → R_kind r d = 1 → dp ≤ 11 → 12 ≤ n + dp → dp + 1 ≤ mc (C_met c) → R_op r dp = nI d → R_ln r dp = nI nm → nm ≤ 99 → NQ (R_pl r) d nm ≤ N → kk + N ≤ 8 → TT n N d dp nm kk h c r := by
  intro n
  induction n with
  | zero => intro N d dp nm kk h c r _ _ _ _ h1 h2; omega
  | succ n ihn =>
    intro N
    induction N with
    | zero =>
      intro d dp nm kk h c r hR hW hd hk hdp hn hmc ho hl hnm hN hkk
      obtain ⟨b, i, e1, e2, hX⟩ := pr_nx hR hW hd hk hnm
      rcases hX with ⟨rfl, rfl⟩ | ⟨p, j, nn, p1, q1, q2, q3, q4, q5, rfl, rfl⟩
      · exact TT_end hdp ho hl e1 e2
      · have := NQ_s p1 q2 q3 q4 q5
        omega
    | succ N ihN =>
      intro d dp nm kk h c r hR hW hd hk hdp hn hmc ho hl hnm hN hkk
      obtain ⟨b, i, e1, e2, hX⟩ := pr_nx hR hW hd hk hnm
      rcases hX with ⟨rfl, rfl⟩ | ⟨p, j, nn, p1, q1, q2, q3, q4, q5, rfl, rfl⟩
      · exact TT_end hdp ho hl e1 e2
      have hNQ := NQ_s p1 q2 q3 q4 q5
      have hE := t_ent hdp hd ho hl e2 p1 q2 q4 q5 h (C_met c)
      have hSL := SR_rL dp nn r
      have hC := c_ent (f_hI (n + 1)) (nI d) (nI dp) h q1 q2 q4 (show kk < 8 by omega) c
      have hM := m_meet hR q2
      have hoL : R_op (rL dp nn r) dp = nI d := by rw [op_rL]; exact ho
      have hlL : R_ln (rL dp nn r) dp = nI nn := by rw [ln_rL, pk_us]
      have hkL : ∀ x, x < dp → R_op (rL dp nn r) x = R_op r x ∧ R_ln (rL dp nn r) x = R_ln r x := fun x hx => ⟨by rw [op_rL], by rw [ln_rL, pk_un (by omega)]⟩
      have skip : f_X2_meet (nI j) c = (0, c) → b_X3_tree_23 h (C_met c) (nI (dp + 1)) r = some (.inr (h, C_met c, nI (dp + 1), rL dp nn r)) → TT (n + 1) (N + 1) d dp nm kk h c r := by
        intro m1 m2
        refine TT_step (s1 := 1) (c1 := c) (r1 := rL dp nn r) (h1 := h) (nn := nn) e1 (fun E1 hE1 => ?_) (fun f => ?_) (SC_r c) hSL hkL (Nat.le_refl _) (by omega) ?_
        · rw [hC, m1, if_pos rfl, hE1, Option.bind_some]
        · rw [Nat.add_comm 1 f]
          exact itl_step (b := bT) f m2
        · exact ihN d dp nn (kk + 1) h c (rL dp nn r) (RW_S hR (SC_r c) hSL) (WI_S hW hSL) hd (by rw [hSL.1]; exact hk) hdp hn hmc hoL hlL q4 (by rw [hSL.2.2.1]; omega) (by omega)
      rw [hSL.1, hSL.2.1] at hE
      by_cases hk0 : R_kind r j = 0
      · rw [if_pos hk0] at hE hM
        exact skip hM hE
      rw [if_neg hk0] at hE hM
      by_cases hbt : bt (C_met c) j = true
      · rw [if_neg (fun q => by rw [(bt_t _ (by omega)).2.mp q] at hbt; cases hbt)] at hE
        rw [if_pos hbt] at hM
        exact skip hM hE
      rw [if_pos ((bt_t _ (by omega)).2.mpr (Bool.eq_false_iff.mpr hbt))] at hE
      rw [if_neg hbt] at hM
      have hset := mc_set q2 hbt
      generalize hm1 : C_met c ||| ((1 : Int32) <<< (nI j &&& 31)) = m1 at hset hE hM
      have hmle := mc_le m1
      have hSC1 := SC_met m1 c
      have hR1 : RW (sC_met m1 c) r := RW_S hR hSC1 (SR_r r)
      rw [hM, if_neg (show ¬ (1 : Int32) = 0 by decide), nI_1] at hC
      have hd12 : nI (dp + 1) < (12 : Int32) := nI_lt (a := dp + 1) (b := 12) (by omega) (by omega)
      by_cases hk1 : R_kind r j = 1
      · rw [if_pos hk1, m_chk (show dp + 1 < 12 by omega) (by omega), m_chk (show dp + 1 < 12 by omega) (by omega)] at hE
        have hSP := SR_t hSL (SR_rP (dp + 1) j (rL dp nn r))
        have hoP : R_op (rP (dp + 1) j (rL dp nn r)) = upd (R_op r) (dp + 1) (nI j) := by rw [op_rP, op_rL]
        have hlP : R_ln (rP (dp + 1) j (rL dp nn r)) = upd (upd (R_ln r) dp (nI nn)) (dp + 1) 0 := by rw [ln_rP, ln_rL]
        generalize rP (dp + 1) j (rL dp nn r) = r2 at hE hSP hoP hlP
        obtain ⟨h', c', r', s, E2, g1, g2, g3, g4, g5, g6, g7, g8⟩ := ihn 8 j (dp + 1) 0 0 (31 * (31 * h + (nI nn).toInt64) + 1) (sC_met m1 c) r2 (RW_S hR hSC1 hSP) (WI_S hW hSP) q2 (by rw [hSP.1]; exact hk1) (by omega) (by omega) (by rw [met_met]; omega) (by rw [hoP, pk_us]) (by rw [hlP, pk_us]; rfl) (by omega) (NQ_le _ _ _) (by omega)
        rw [met_met] at g3 g7 g8
        have hhI : f_hI (n + 1) (31 * h + (nI nn).toInt64) (nI j) (nI (dp + 1)) (sC_met m1 c) = some (31 * h' + 9, c') := by
          show f_X2_hashOfInode (f_X2_hashOfDirectory (f_hI n)) _ _ _ _ = _
          unfold f_X2_hashOfInode
          rw [if_pos hd12, rd_k hR1 q2, if_pos hk1]
          unfold f_X2_hashOfDirectory
          have g1' : f_X2_entryBehindName (nI j) (0 : Int32) (sC_met m1 c) = some E2 := g1
          have g2' : itl (fun a : Int64 × Int32 × Int32 × CS => b_X2_hashOfDirectory_20 (f_hI n) (nI j) (nI (dp + 1)) a.1 a.2.1 a.2.2.1 a.2.2.2) 300 (31 * (31 * h + (nI nn).toInt64) + 1, E2, (0 : Int32), sC_met m1 c) = some (h', c') := g2 300 (by omega)
          rw [g1', Option.bind_some, g2', Option.bind_some, Option.bind_some]
        have hSR' := SR_t hSP g5
        have hSC' := SC_t hSC1 g4
        refine TT_step (s1 := 1 + s) (c1 := c') (r1 := r') (h1 := 31 * h' + 9) (nn := nn) e1 (fun E1 hE1 => ?_) (fun f => ?_) hSC' hSR' (fun x hx => ?_) (by omega) (by omega) ?_
        · rw [hC, hhI, Option.bind_some]
          dsimp only
          rw [hE1, Option.bind_some]
        · rw [show 1 + s + f = (s + f) + 1 by omega]
          exact Eq.trans (itl_step (b := bT) (a := (h, C_met c, nI (dp + 1), r)) (a' := (31 * (31 * h + (nI nn).toInt64) + 1, m1, nI (dp + 1 + 1), r2)) (s + f) hE) (g3 f)
        · obtain ⟨a1, a2⟩ := g6 x (by omega)
          rw [a1, a2, hoP, hlP, pk_un (by omega), pk_un (by omega), pk_un (by omega)]
          exact ⟨rfl, rfl⟩
        · obtain ⟨a1, a2⟩ := g6 dp (by omega)
          refine ihN d dp nn (kk + 1) (31 * h' + 9) c' r' (RW_S hR hSC' hSR') (WI_S hW hSR') hd (by rw [hSR'.1]; exact hk) hdp hn (by omega) ?_ ?_ q4 (by rw [hSR'.2.2.1]; omega) (by omega)
          · rw [a1, hoP, pk_un (by omega)]; exact ho
          · rw [a2, hlP, pk_un (by omega), pk_us]
      · have hk2 : R_kind r j = 2 := by
          rcases hW.1 j q2 with q | q | q
          · exact absurd q hk0
          · exact absurd q hk1
          · exact q
        rw [if_neg hk1] at hE
        have hRL := RW_S hR hSC1 hSL
        obtain ⟨m, a1, a2, a3, a4⟩ := c_hf hRL (WI_S hW hSL) q2 (by rw [hSL.1]; exact hk2) (31 * h + (nI nn).toInt64)
        rw [← hSL.2.1, a2, r_hf (rL dp nn r) q2 a1 a2 a3, Option.bind_some] at hE
        generalize hs (FD (rL dp nn r) j) (31 * (31 * (31 * h + (nI nn).toInt64) + 2) + (nI m).toInt64) (3 * m) = h2 at a4 hE
        have hhI : f_hI (n + 1) (31 * h + (nI nn).toInt64) (nI j) (nI (dp + 1)) (sC_met m1 c) = some (h2, sC_met m1 c) := by
          show f_X2_hashOfInode (f_X2_hashOfDirectory (f_hI n)) _ _ _ _ = _
          unfold f_X2_hashOfInode
          rw [if_pos hd12, rd_k hR1 q2, if_neg hk1, a4, Option.bind_some]
        refine TT_step (s1 := 1) (c1 := sC_met m1 c) (r1 := rL dp nn r) (h1 := h2) (nn := nn) e1 (fun E1 hE1 => ?_) (fun f => ?_) hSC1 hSL hkL (by rw [met_met]; omega) (by rw [met_met]; omega) ?_
        · rw [hC, hhI, Option.bind_some]
          dsimp only
          rw [hE1, Option.bind_some]
        · rw [Nat.add_comm 1 f, met_met]
          exact itl_step (b := bT) f hE
        · exact ihN d dp nn (kk + 1) h2 (sC_met m1 c) (rL dp nn r) hRL (WI_S hW hSL) hd (by rw [hSL.1]; exact hk) hdp hn (by rw [met_met]; omega) hoL hlL q4 (by rw [hSL.2.2.1]; omega) (by omega)
theorem mm_tree {c : CS} {r : RS} (hB : RB c r) (hI : IV r) : ∃ v c' r', f_X2_tree c = some (v, c') ∧ f_X3_tree r = some (v, r') ∧ RB c' r' ∧ IV r' ∧ ∃ m, m ≤ 200 ∧ R_wr r' = R_wr r + nI m := by
  have hSC1 := SC_met 1 c
  have hSP := SR_rP 0 0 r
  have hW := hI.1
  have hk0 : R_kind r 0 = 1 := hW.2.1
  have hR1 := RW_S hB.1 hSC1 (SR_r r)
  have hm1 : mc 1 = 1 := by decide +kernel
  obtain ⟨h', c', r', s, E2, g1, g2, g3, g4, g5, g6, g7, g8⟩ := tr_T 12 8 0 0 0 0 156 (sC_met 1 c) (rP 0 0 r) (RW_S hB.1 hSC1 hSP) (WI_S hW hSP) (by omega) (by rw [hSP.1]; exact hk0) (by omega) (by omega) (by rw [met_met, hm1]; exact Nat.le_refl 1) (by rw [op_rP, pk_us]) (by rw [ln_rP, pk_us]; rfl) (by omega) (NQ_le _ _ _) (by omega)
  rw [met_met] at g3 g7 g8
  have hmle := mc_le (C_met c')
  obtain ⟨b1, b2⟩ := S_RB hB hI (SC_t hSC1 g4) (SR_t hSP g5)
  refine ⟨31 * h' + 9, c', r', ?_, ?_, b1, b2, 0, by omega, ?_⟩
  · unfold f_X2_tree
    have e : f_hI 13 (5 : Int64) (0 : Int32) (0 : Int32) (sC_met 1 c) = some (31 * h' + 9, c') := by
      show f_X2_hashOfInode (f_X2_hashOfDirectory (f_hI 12)) _ _ _ _ = _
      unfold f_X2_hashOfInode
      have k1 : f_X2_kindOf (0 : Int32) (sC_met 1 c) = 1 := (rd_k hR1 (i := 0) (by omega)).trans hk0
      rw [if_pos (show (0 : Int32) < 12 by decide), k1, if_pos rfl]
      unfold f_X2_hashOfDirectory
      have g1' : f_X2_entryBehindName (0 : Int32) (0 : Int32) (sC_met 1 c) = some E2 := g1
      have g2' : itl (fun a : Int64 × Int32 × Int32 × CS => b_X2_hashOfDirectory_20 (f_hI 12) (0 : Int32) (0 : Int32) a.1 a.2.1 a.2.2.1 a.2.2.2) 300 ((31 : Int64) * 5 + 1, E2, (0 : Int32), sC_met 1 c) = some (h', c') := g2 300 (by omega)
      rw [g1', Option.bind_some, g2', Option.bind_some, Option.bind_some]
    rw [e, Option.bind_some]
  · unfold f_X3_tree
    have k0 : ∀ (k : Option (Int64 × RS)), chk (0 : Int32) 12 k = k := fun k => m_chk (n := 0) (by omega) (by omega) k
    rw [k0, k0]
    have e : itl (fun a : Int64 × Int32 × Int32 × RS => b_X3_tree_23 a.1 a.2.1 a.2.2.1 a.2.2.2) 300 ((156 : Int64), (1 : Int32), (1 : Int32), rP 0 0 r) = some (31 * h' + 9, r') := by
      have g := g3 (300 - s)
      rw [show s + (300 - s) = (299 - s + s) + 1 by omega] at g
      have g' : itl bT 300 ((156 : Int64), (1 : Int32), (1 : Int32), rP 0 0 r) = itl bT (300 - s) (31 * h' + 9, C_met c', nI 0, r') := by
        rw [show (300 : Nat) = (299 - s + s) + 1 by omega]
        rw [show (299 - s + s) + 1 - s = 300 - s by omega]
        exact g
      refine g'.trans ?_
      rw [show 300 - s = (299 - s) + 1 by omega]
      exact itl_stop (b := bT) (299 - s) (t_end _ _ _)
    have e' : itl (fun a : Int64 × Int32 × Int32 × RS => b_X3_tree_23 a.1 a.2.1 a.2.2.1 a.2.2.2) 300 ((156 : Int64), (1 : Int32), (1 : Int32), (sR_ln (upd (R_ln (sR_op (upd (R_op r) (0 : Int32).toNatClampNeg (0 : Int32)) r)) (0 : Int32).toNatClampNeg (0 : Int32)) (sR_op (upd (R_op r) (0 : Int32).toNatClampNeg (0 : Int32)) r))) = some (31 * h' + 9, r') := e
    rw [e', Option.bind_some]
  · rw [(SR_t hSP g5).2.2.2.2.2.2.2.1]
    exact (Int32.add_zero _).symm
