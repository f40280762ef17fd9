/-! where an inode stands: both sides -/
def SD (r : RS) (k j : Nat) : Prop := ∃ d p, ET (R_kind r) (R_pl r) d p j ∧ 8 * d + p < k
theorem n_div8 {k : Nat} (h : k < 2 ^ 31) : nI k / (8 : Int32) = nI (k / 8) := by
  rw [show (8 : Int32) = nI 8 from rfl, pk_div h (by omega) (by omega)]
theorem n_rem8 {k : Nat} (h : k < 2 ^ 31) : nI k - nI k / (8 : Int32) * (8 : Int32) = nI (k % 8) := by
  rw [show (8 : Int32) = nI 8 from rfl, pk_rem h (by omega) (by omega)]
/-- what stands at a place -/
theorem ET_read {r : RS} (hW : WI (R_kind r) (R_size r) (R_pl r) (R_rec r)) {d p : Nat} (hd : d < 12) (hp : p < 8) (hk : R_kind r d = 1) : (R_pl r (8 * d + p) = 0 ∧ R_pl r (8 * d + p) ≤ 0 ∧ ∀ j, ¬ ET (R_kind r) (R_pl r) d p j) ∨ (∃ j, 1 ≤ j ∧ j < 12 ∧ ET (R_kind r) (R_pl r) d p j ∧ ¬ R_pl r (8 * d + p) = 0 ∧ ¬ R_pl r (8 * d + p) ≤ 0 ∧ R_pl r (8 * d + p) / 100 = nI j ∧ ∀ j', ET (R_kind r) (R_pl r) d p j' → j' = j) := by
  rcases EN_read (hW.2.2.2.1 d p hd hp hk) with ⟨z1, z2, z3, z4⟩ | ⟨j, n, j1, j2, n1, n2, y1, y2, y3, y4, y5⟩
  · left
    refine ⟨z1, z4, fun j h => ?_⟩
    obtain ⟨_, _, hj, _, n, hn1, hn2, e⟩ := h
    rw [z1] at e
    exact nI_ne0 (by omega) (by omega) e.symm
  · right
    refine ⟨j, j1, j2, ⟨hd, hp, j2, hk, n, n1, n2, y1⟩, y5, y4, y2, fun j' h => ?_⟩
    obtain ⟨_, _, hj, _, n', hn1, hn2, e⟩ := h
    rw [y1] at e
    have := m_inj (by omega) (by omega) e
    omega
theorem pr_st (r : RS) (hW : WI (R_kind r) (R_size r) (R_pl r) (R_rec r)) {j N : Nat} (hj : j < 12) (hN : N ≤ 96) : (f_X3_stands (nI j) (nI N) r = some 1 ∧ SD r N j) ∨ (f_X3_stands (nI j) (nI N) r = some 0 ∧ ¬ SD r N j) := by
  obtain ⟨x, h1, hJ⟩ := itl_ix (b := fun a : Int32 => b_X3_stands_2 (nI j) (nI N) r a) (fun k a => a = nI k ∧ ¬ SD r k j) (fun x => (x = .inl 1 ∧ SD r N j) ∨ (x = .inr () ∧ ¬ SD r N j)) N (by
      rintro k a hk ⟨rfl, hns⟩
      have hkd : k = 8 * (k / 8) + k % 8 := by omega
      have hd : k / 8 < 12 := by omega
      have hp : k % 8 < 8 := by omega
      have hnext : (∀ h : ET (R_kind r) (R_pl r) (k / 8) (k % 8) j, False) → ¬ SD r (k + 1) j := by
        rintro h ⟨d, p, e1, e2⟩
        by_cases e : 8 * d + p = k
        · have hp8 := e1.2.1
          have : d = k / 8 := by omega
          have : p = k % 8 := by omega
          subst d; subst p
          exact h e1
        · exact hns ⟨d, p, e1, by omega⟩
      have E : b_X3_stands_2 (nI j) (nI N) r (nI k) = if R_kind r (k / 8) = 1 then (if R_pl r k ≤ 0 then some (.inr (nI (k + 1))) else (if R_pl r k / 100 = nI j then some (.inl (.inl 1)) else some (.inr (nI (k + 1))))) else some (.inr (nI (k + 1))) := by
        unfold b_X3_stands_2
        rw [if_neg (m_nle hk (by omega)), n_div8 (by omega), m_chk hd (by omega), m_cl (show k / 8 < 2 ^ 31 by omega), m_chk (show k < 96 by omega) (by omega), m_cl (show k < 2 ^ 31 by omega), m_chk (show k < 96 by omega) (by omega), nI_1]
      by_cases hk1 : R_kind r (k / 8) = 1
      · rw [if_pos hk1] at E
        have hr := ET_read hW hd hp hk1
        rw [← hkd] at hr
        rcases hr with ⟨z1, z2, z3⟩ | ⟨j', y1, y2, y3, y4, y5, y6, y7⟩
        · right
          exact ⟨nI (k + 1), by rw [E, if_pos z2], rfl, hnext (fun h => z3 j h)⟩
        · rw [if_neg y5, y6] at E
          by_cases e : j' = j
          · left
            subst e
            exact ⟨.inl 1, by rw [E, if_pos rfl], Or.inl ⟨rfl, k / 8, k % 8, y3, by omega⟩⟩
          · right
            exact ⟨nI (k + 1), by rw [E, if_neg (fun q => e (m_inj (by omega) (by omega) q))], rfl, hnext (fun h => e (y7 j h).symm)⟩
      · right
        rw [if_neg hk1] at E
        exact ⟨nI (k + 1), E, rfl, hnext (fun h => hk1 h.2.2.2.1)⟩)
    (by
      rintro a ⟨rfl, hns⟩
      refine ⟨.inr (), ?_, Or.inr ⟨rfl, hns⟩⟩
      unfold b_X3_stands_2
      rw [if_pos (Int32.le_refl _)])
    N 0 300 0 (by omega) (by omega) ⟨rfl, fun ⟨d, p, e1, e2⟩ => by omega⟩
  unfold f_X3_stands
  rw [h1, Option.bind_some]
  rcases hJ with ⟨rfl, z⟩ | ⟨rfl, z⟩
  · exact Or.inl ⟨rfl, z⟩
  · exact Or.inr ⟨rfl, z⟩
theorem pr_hh {c : CS} {r : RS} (hR : RW c r) (hW : WI (R_kind r) (R_size r) (R_pl r) (R_rec r)) {d j : Nat} (hd : d < 12) (hj : j < 12) (hk : R_kind r d = 1) : (f_X2_hasEntryOf (nI d) (nI j) c = some 1 ∧ ∃ p, ET (R_kind r) (R_pl r) d p j) ∨ (f_X2_hasEntryOf (nI d) (nI j) c = some 0 ∧ ∀ p, ¬ ET (R_kind r) (R_pl r) d p j) := by
  obtain ⟨x, h1, hJ⟩ := itl_ix (b := fun a : Int32 => b_X2_hasEntryOf_2 (nI d) (nI j) c a) (fun k a => a = nI k ∧ ∀ p, p < k → ¬ ET (R_kind r) (R_pl r) d p j) (fun x => (x = .inl 1 ∧ ∃ p, ET (R_kind r) (R_pl r) d p j) ∨ (x = .inr () ∧ ∀ p, ¬ ET (R_kind r) (R_pl r) d p j)) 8 (by
      rintro p a hp ⟨rfl, hns⟩
      have hnext : (¬ ET (R_kind r) (R_pl r) d p j) → ∀ q, q < p + 1 → ¬ ET (R_kind r) (R_pl r) d q j := by
        intro h q hq
        by_cases e : q = p
        · rw [e]; exact h
        · exact hns q (by omega)
      have E : b_X2_hasEntryOf_2 (nI d) (nI j) c (nI p) = if R_pl r (8 * d + p) = 0 then some (.inr (nI (p + 1))) else (if R_pl r (8 * d + p) / 100 = nI j then some (.inl (.inl 1)) else some (.inr (nI (p + 1)))) := by
        unfold b_X2_hasEntryOf_2 f_X2_inodeOfEntry
        rw [if_neg (show ¬ (8 : Int32) ≤ nI p from m_nle (N := 8) hp (by omega)), rd_p hR hd hp, nI_1]
      rcases ET_read hW hd hp hk with ⟨z1, z2, z3⟩ | ⟨j', y1, y2, y3, y4, y5, y6, y7⟩
      · right
        exact ⟨nI (p + 1), by rw [E, if_pos z1], rfl, hnext (z3 j)⟩
      · rw [if_neg y4, y6] at E
        by_cases e : j' = j
        · left
          subst e
          exact ⟨.inl 1, by rw [E, if_pos rfl], Or.inl ⟨rfl, p, y3⟩⟩
        · right
          exact ⟨nI (p + 1), by rw [E, if_neg (fun q => e (m_inj (by omega) (by omega) q))], rfl, hnext (fun h => e (y7 j h).symm)⟩)
    (by
      rintro a ⟨rfl, hns⟩
      refine ⟨.inr (), ?_, Or.inr ⟨rfl, fun p h => hns p h.2.1 h⟩⟩
      unfold b_X2_hasEntryOf_2
      rw [if_pos (show (8 : Int32) ≤ nI 8 from Int32.le_refl _)])
    8 0 300 0 rfl (by omega) ⟨rfl, fun p h => by omega⟩
  unfold f_X2_hasEntryOf
  rw [h1, Option.bind_some]
  rcases hJ with ⟨rfl, z⟩ | ⟨rfl, z⟩
  · exact Or.inl ⟨rfl, z⟩
  · exact Or.inr ⟨rfl, z⟩
theorem pr_da {c : CS} {r : RS} (hR : RW c r) (hW : WI (R_kind r) (R_size r) (R_pl r) (R_rec r)) {j : Nat} (hj : j < 12) : (∃ d p, ET (R_kind r) (R_pl r) d p j ∧ f_X2_directoryAbove (nI j) c = some (nI d)) ∨ (f_X2_directoryAbove (nI j) c = some (-3) ∧ ∀ d p, ¬ ET (R_kind r) (R_pl r) d p j) := by
  obtain ⟨x, h1, hJ⟩ := itl_ix (b := fun a : Int32 => b_X2_directoryAbove_2 (nI j) c a) (fun k a => a = nI k ∧ ∀ d p, d < k → ¬ ET (R_kind r) (R_pl r) d p j) (fun x => (∃ d p, x = .inl (nI d) ∧ ET (R_kind r) (R_pl r) d p j) ∨ (x = .inr () ∧ ∀ d p, ¬ ET (R_kind r) (R_pl r) d p j)) 12 (by
      rintro d a hd ⟨rfl, hns⟩
      have hnext : (∀ p, ¬ ET (R_kind r) (R_pl r) d p j) → ∀ e p, e < d + 1 → ¬ ET (R_kind r) (R_pl r) e p j := by
        intro h e p he
        by_cases q : e = d
        · rw [q]; exact h p
        · exact hns e p (by omega)
      have hn : ¬ (12 : Int32) ≤ nI d := m_nle (N := 12) hd (by omega)
      by_cases hk : R_kind r d = 1
      · rcases pr_hh hR hW hd hj hk with ⟨e1, p, e2⟩ | ⟨e1, e2⟩
        · left
          refine ⟨.inl (nI d), ?_, Or.inl ⟨d, p, rfl, e2⟩⟩
          unfold b_X2_directoryAbove_2
          rw [if_neg hn, rd_k hR hd, if_pos hk, e1, Option.bind_some, if_neg (show ¬ (1 : Int32) = 0 by decide)]
        · right
          refine ⟨nI (d + 1), ?_, rfl, hnext e2⟩
          unfold b_X2_directoryAbove_2
          rw [if_neg hn, rd_k hR hd, if_pos hk, e1, Option.bind_some, if_pos rfl, nI_1]
      · right
        refine ⟨nI (d + 1), ?_, rfl, hnext (fun p h => hk h.2.2.2.1)⟩
        unfold b_X2_directoryAbove_2
        rw [if_neg hn, rd_k hR hd, if_neg hk, nI_1])
    (by
      rintro a ⟨rfl, hns⟩
      refine ⟨.inr (), ?_, Or.inr ⟨rfl, fun d p h => hns d p h.1 h⟩⟩
      unfold b_X2_directoryAbove_2
      rw [if_pos (show (12 : Int32) ≤ nI 12 from Int32.le_refl _)])
    12 0 300 0 rfl (by omega) ⟨rfl, fun d p h => by omega⟩
  unfold f_X2_directoryAbove
  rw [h1, Option.bind_some]
  rcases hJ with ⟨d, p, rfl, z⟩ | ⟨rfl, z⟩
  · exact Or.inl ⟨d, p, z, rfl⟩
  · exact Or.inr ⟨rfl, z⟩
