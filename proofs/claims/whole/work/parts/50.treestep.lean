/-! tree: the entry behind a name, a file's hash, single steps -/
def nE (x : Int32) : Int32 := x - x / 100 * 100
def NQ (P : NF) (d nm : Nat) : Nat := cn (fun p => nI nm < nE (P (8 * d + p))) 8
def NX (P : NF) (d nm k : Nat) (b i : Int32) : Prop := (b = 0 ∧ i = -1) ∨ ∃ p j nn, p < k ∧ 1 ≤ j ∧ j < 12 ∧ nm < nn ∧ nn ≤ 99 ∧ P (8 * d + p) = nI (100 * j + nn) ∧ b = nI (100 * j + nn) ∧ i = nI p
theorem NX_s {P : NF} {d nm k : Nat} {b i : Int32} (h : NX P d nm k b i) : NX P d nm (k + 1) b i := by
  rcases h with h | ⟨p, j, nn, h1, h2⟩
  · exact Or.inl h
  · exact Or.inr ⟨p, j, nn, by omega, h2⟩
theorem nE_c {j n : Nat} (hj : j < 12) (hn : n ≤ 99) : nI (100 * j + n) / 100 = nI j ∧ nI (100 * j + n) - nI (100 * j + n) / 100 * 100 = nI n := by
  constructor
  · rw [show (100 : Int32) = nI 100 from rfl, pk_div (by omega) (by omega) (by omega)]
    congr 1; omega
  · rw [show (100 : Int32) = nI 100 from rfl, pk_rem (by omega) (by omega) (by omega)]
    congr 1; omega
theorem pr_nx {c : CS} {r : RS} (hR : RW c r) (hW : WI (R_kind r) (R_size r) (R_pl r) (R_rec r)) {d nm : Nat} (hd : d < 12) (hk : R_kind r d = 1) (hnm : nm ≤ 99) :
    ∃ b i, f_X2_entryBehindName (nI d) (nI nm) c = some b ∧ f_X3_nextEntry (nI d) (nI nm) r = some i ∧ NX (R_pl r) d nm 8 b i := by
  obtain ⟨x, x', h1, h2, hJ⟩ := itl_two (b := fun a : Int32 × Int32 => b_X2_entryBehindName_5 (nI d) (nI nm) c a.1 a.2) (b' := fun a : Int32 × Int32 => b_X3_nextEntry_5 (nI d) (nI nm) r a.1 a.2) (fun k a a' => a.2 = nI k ∧ a'.2 = nI k ∧ NX (R_pl r) d nm k a.1 a'.1) (fun x x' => NX (R_pl r) d nm 8 x x') 8 (by
      rintro k ⟨b, _⟩ ⟨i, _⟩ hk8 ⟨rfl, rfl, hN⟩
      right
      dsimp only at hN ⊢
      have hc8 : ¬ (8 : Int32) ≤ nI k := m_nle (N := 8) hk8 (by omega)
      unfold b_X2_entryBehindName_5 b_X3_nextEntry_5
      rw [if_neg hc8, if_neg hc8, rd_p hR hd hk8, m_ix8, m_chk (show 8 * d + k < 96 by omega) (by omega), m_cl (show 8 * d + k < 2 ^ 31 by omega), nI_1]
      unfold f_X2_nameOfEntry
      rcases EN_read (hW.2.2.2.1 d k hd hk8 hk) with ⟨z1, z2, z3, z4⟩ | ⟨j, n, j1, j2, n1, n2, y1, y2, y3, y4, y5⟩
      · rw [z3, if_pos (show (0 : Int32) ≤ nI nm from nI_pos' (by omega)), if_pos z4, if_pos rfl]
        exact ⟨_, _, rfl, rfl, rfl, rfl, NX_s hN⟩
      · rw [y3, if_neg y4]
        by_cases e : nI n ≤ nI nm
        · rw [if_pos e, if_pos e, if_pos rfl]
          exact ⟨_, _, rfl, rfl, rfl, rfl, NX_s hN⟩
        · rw [if_neg e, if_neg e, if_neg (show ¬ (1 : Int32) = 0 by decide)]
          have hlt : nm < n := by
            rw [m_ile (by omega) (by omega)] at e
            omega
          rcases hN with ⟨rfl, rfl⟩ | ⟨p, j', n', p1, q1, q2, q3, q4, q5, rfl, rfl⟩
          · rw [if_pos rfl, if_pos (show (-1 : Int32) < 0 by decide)]
            exact ⟨_, _, rfl, rfl, rfl, rfl, Or.inr ⟨k, j, n, by omega, j1, j2, hlt, n2, y1, y1, rfl⟩⟩
          · rw [if_neg (show ¬ nI (100 * j' + n') = 0 from nI_ne0 (by omega) (by omega)), if_neg (m_lt0 (show p < 2 ^ 31 by omega)), m_ix8, m_chk (show 8 * d + p < 96 by omega) (by omega), m_cl (show 8 * d + p < 2 ^ 31 by omega), q5, (nE_c q2 q4).2]
            by_cases e2 : nI n' ≤ nI n
            · rw [if_pos e2, if_pos e2]
              exact ⟨_, _, rfl, rfl, rfl, rfl, Or.inr ⟨p, j', n', by omega, q1, q2, q3, q4, q5, rfl, rfl⟩⟩
            · rw [if_neg e2, if_neg e2]
              exact ⟨_, _, rfl, rfl, rfl, rfl, Or.inr ⟨k, j, n, by omega, j1, j2, hlt, n2, y1, y1, rfl⟩⟩)
    (by
      rintro ⟨b, _⟩ ⟨i, _⟩ ⟨rfl, rfl, hN⟩
      refine ⟨b, i, ?_, ?_, hN⟩
      · dsimp only
        unfold b_X2_entryBehindName_5
        rw [if_pos (show (8 : Int32) ≤ nI 8 from Int32.le_refl _)]
      · dsimp only
        unfold b_X3_nextEntry_5
        rw [if_pos (show (8 : Int32) ≤ nI 8 from Int32.le_refl _)])
    8 0 300 300 ((0 : Int32), (0 : Int32)) ((-1 : Int32), (0 : Int32)) rfl (by omega) (by omega) ⟨rfl, rfl, Or.inl ⟨rfl, rfl⟩⟩
  unfold f_X2_entryBehindName f_X3_nextEntry
  rw [h1, h2, Option.bind_some, Option.bind_some]
  exact ⟨x, x', rfl, rfl, hJ⟩
/-- the word that a file's hash takes in at its place q -/
def FD (r : RS) (j q : Nat) : Int64 := R_ws r (3 * (R_pl r (8 * j + q / 3)).toNatClampNeg + q % 3)
theorem FD_at {r : RS} {j p k b : Nat} (hk : k < 3) (hb : b < 40) (hp : R_pl r (8 * j + p) = nI b) : FD r j (3 * p + k) = R_ws r (3 * b + k) := by
  unfold FD
  rw [show (3 * p + k) / 3 = p by omega, show (3 * p + k) % 3 = k by omega, hp, m_cl (by omega)]
theorem c_hf {c : CS} {r : RS} (hR : RW c r) (hW : WI (R_kind r) (R_size r) (R_pl r) (R_rec r)) {j : Nat} (hj : j < 12) (hk : R_kind r j = 2) (h : Int64) : ∃ m, m ≤ 8 ∧ R_size r j = nI m ∧ (∀ p, p < m → ∃ b, b < 40 ∧ R_pl r (8 * j + p) = nI b) ∧ f_X2_hashOfFile h (nI j) c = some (hs (FD r j) (31 * (31 * h + 2) + (nI m).toInt64) (3 * m)) := by
  obtain ⟨m, hm, hum, q1, q2⟩ := us_m hW hj
  have hz := q1 hk
  have hb : ∀ p, p < m → ∃ b, b < 40 ∧ R_pl r (8 * j + p) = nI b := fun p hp => hW.2.2.2.2.1 j p ((hum p).mpr hp)
  refine ⟨m, hm, hz, hb, ?_⟩
  unfold f_X2_hashOfFile
  rw [rd_s hR hj, hz]
  generalize (31 : Int64) * (31 * h + 2) + (nI m).toInt64 = h0
  have hin : ∀ p, p < m → itl (fun a : Int64 × Int32 => b_X2_hashOfFile_39 (nI j) (nI m) (nI p) c a.1 a.2) 300 (hs (FD r j) h0 (3 * p), (0 : Int32)) = some (hs (FD r j) h0 (3 * p + 3)) := by
    intro p hp
    obtain ⟨b, hb1, hb2⟩ := hb p hp
    have e := itl_run (b := fun a : Int64 × Int32 => b_X2_hashOfFile_39 (nI j) (nI m) (nI p) c a.1 a.2) (fun k => (hs (FD r j) h0 (3 * p + k), nI k)) (hs (FD r j) h0 (3 * p + 3)) 3 (by
        intro k hk3
        dsimp only
        unfold b_X2_hashOfFile_39
        rw [if_neg (show ¬ (3 : Int32) ≤ nI k from m_nle (N := 3) hk3 (by omega)), rd_p hR hj (by omega), hb2, rd_d hR hb1 hk3, nI_1, ← FD_at hk3 hb1 hb2]
        rfl)
      (by
        dsimp only
        unfold b_X2_hashOfFile_39
        rw [if_pos (show (3 : Int32) ≤ nI 3 from Int32.le_refl _)]) 3 0 300 rfl (by omega)
    exact e
  have ho := itl_run (b := fun a : Int64 × Int32 => b_X2_hashOfFile_29 (nI j) (nI m) c a.1 a.2) (fun p => (hs (FD r j) h0 (3 * p), nI p)) (hs (FD r j) h0 (3 * m)) m (by
      intro p hp
      dsimp only
      unfold b_X2_hashOfFile_29
      rw [if_neg (m_nle hp (by omega)), hin p hp, Option.bind_some, nI_1]
      rfl)
    (by
      dsimp only
      unfold b_X2_hashOfFile_29
      rw [if_pos (Int32.le_refl _)]) m 0 300 (Nat.zero_add m) (by omega)
  have ho : itl (fun a : Int64 × Int32 => b_X2_hashOfFile_29 (nI j) (nI m) c a.1 a.2) 300 (h0, (0 : Int32)) = some (hs (FD r j) h0 (3 * m)) := ho
  rw [ho, Option.bind_some]
theorem n_div3 {k : Nat} (h : k < 2 ^ 31) : nI k / (3 : Int32) = nI (k / 3) := by
  rw [show (3 : Int32) = nI 3 from rfl, pk_div h (by omega) (by omega)]
theorem n_rem3 {k : Nat} (h : k < 2 ^ 31) : nI k - nI k / (3 : Int32) * (3 : Int32) = nI (k % 3) := by
  rw [show (3 : Int32) = nI 3 from rfl, pk_rem h (by omega) (by omega)]
theorem r_hf (r : RS) {j m : Nat} (hj : j < 12) (hm : m ≤ 8) (hz : R_size r j = nI m) (hb : ∀ p, p < m → ∃ b, b < 40 ∧ R_pl r (8 * j + p) = nI b) (y3 y4 : Int32) (h0 : Int64) : itl (fun a : Int64 × Int32 => b_X3_tree_220 y3 y4 (nI j) r a.1 a.2) 300 (h0, (0 : Int32)) = some (hs (FD r j) h0 (3 * m)) := by
  have e3 : (3 : Int32) * nI m = nI (3 * m) := by rw [show (3 : Int32) = nI 3 from rfl, pk_mul]
  have e := itl_run (b := fun a : Int64 × Int32 => b_X3_tree_220 y3 y4 (nI j) r a.1 a.2) (fun q => (hs (FD r j) h0 q, nI q)) (hs (FD r j) h0 (3 * m)) (3 * m) (by
      intro q hq
      dsimp only
      obtain ⟨b, hb1, hb2⟩ := hb (q / 3) (by omega)
      have hF := FD_at (r := r) (j := j) (p := q / 3) (k := q % 3) (by omega) hb1 hb2
      rw [show 3 * (q / 3) + q % 3 = q by omega] at hF
      unfold b_X3_tree_220
      rw [m_chk hj (by omega), m_cl (show j < 2 ^ 31 by omega), hz, e3, if_neg (m_nle hq (by omega)), n_rem3 (show q < 2 ^ 31 by omega), n_div3 (show q < 2 ^ 31 by omega), m_ix8, m_chk (show 8 * j + q / 3 < 96 by omega) (by omega), m_cl (show 8 * j + q / 3 < 2 ^ 31 by omega), hb2, m_ix3, m_chk (show 3 * b + q % 3 < 120 by omega) (by omega), m_cl (show 3 * b + q % 3 < 2 ^ 31 by omega), nI_1, ← hF]
      rfl)
    (by
      dsimp only
      unfold b_X3_tree_220
      rw [m_chk hj (by omega), m_cl (show j < 2 ^ 31 by omega), hz, e3, if_pos (Int32.le_refl _)]) (3 * m) 0 300 (Nat.zero_add _) (by omega)
  exact e
def rL (dp nn : Nat) (r : RS) : RS := sR_ln (upd (R_ln r) dp (nI nn)) r
def rO (dp j : Nat) (r : RS) : RS := sR_op (upd (R_op r) dp (nI j)) r
def rP (dp j : Nat) (r : RS) : RS := sR_ln (upd (R_ln (rO dp j r)) dp 0) (rO dp j r)
theorem SR_rL (dp nn : Nat) (r : RS) : SR r (rL dp nn r) := ⟨rfl, rfl, rfl, rfl, rfl, rfl, rfl, rfl, rfl, rfl⟩
theorem SR_rO (dp j : Nat) (r : RS) : SR r (rO dp j r) := ⟨rfl, rfl, rfl, rfl, rfl, rfl, rfl, rfl, rfl, rfl⟩
theorem SR_sl (v : NF) (r : RS) : SR r (sR_ln v r) := ⟨rfl, rfl, rfl, rfl, rfl, rfl, rfl, rfl, rfl, rfl⟩
theorem SR_rP (dp j : Nat) (r : RS) : SR r (rP dp j r) := SR_t (SR_rO dp j r) (SR_sl _ _)
theorem op_rL (dp nn : Nat) (r : RS) : R_op (rL dp nn r) = R_op r := rfl
theorem ln_rL (dp nn : Nat) (r : RS) : R_ln (rL dp nn r) = upd (R_ln r) dp (nI nn) := rfl
theorem op_rO (dp j : Nat) (r : RS) : R_op (rO dp j r) = upd (R_op r) dp (nI j) := rfl
theorem ln_rO (dp j : Nat) (r : RS) : R_ln (rO dp j r) = R_ln r := rfl
theorem op_sl (v : NF) (r : RS) : R_op (sR_ln v r) = R_op r := rfl
theorem ln_sl (v : NF) (r : RS) : R_ln (sR_ln v r) = v := rfl
theorem op_rP (dp j : Nat) (r : RS) : R_op (rP dp j r) = upd (R_op r) dp (nI j) := by unfold rP; rw [op_sl, op_rO]
theorem ln_rP (dp j : Nat) (r : RS) : R_ln (rP dp j r) = upd (R_ln r) dp 0 := by unfold rP; rw [ln_sl, ln_rO]
theorem t_s1 (dp : Nat) : nI (dp + 1) - 1 = nI dp := by
  rw [show (1 : Int32) = nI 1 from rfl, pk_sub (by omega)]
  congr 1
theorem t_n1 (dp : Nat) : nI (dp + 1) + (-1 : Int32) = nI dp := by
  rw [← Int32.sub_eq_add_neg]
  exact t_s1 dp
theorem t_end (h : Int64) (m : Int32) (r : RS) : b_X3_tree_23 h m (nI 0) r = some (.inl (h, r)) := by
  unfold b_X3_tree_23
  rw [if_pos (show nI 0 ≤ (0 : Int32) from Int32.le_refl _)]
theorem t_pop {r : RS} {dp d nm : Nat} (hdp : dp ≤ 11) (ho : R_op r dp = nI d) (hl : R_ln r dp = nI nm) (hn : f_X3_nextEntry (nI d) (nI nm) r = some (-1)) (h : Int64) (m : Int32) : b_X3_tree_23 h m (nI (dp + 1)) r = some (.inr (31 * h + 9, m, nI dp, r)) := by
  unfold b_X3_tree_23
  rw [if_neg (nI_nle (by omega) (by omega)), t_s1, m_chk (show dp < 12 by omega) (by omega), m_chk (show dp < 12 by omega) (by omega), m_cl (show dp < 2 ^ 31 by omega), ho, hl, hn, Option.bind_some, if_neg (show ¬ (0 : Int32) ≤ -1 by decide), t_n1]
