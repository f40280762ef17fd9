/-! searches of both sides -/
theorem m_nle {k N : Nat} (h : k < N) (hN : N < 2 ^ 31) : ¬ nI N ≤ nI k := nI_ge h hN
/-- a name in a directory -/
theorem pr_pn {c : CS} {r : RS} (hR : RW c r) {d nm : Nat} (hd : d < 12) (hE : ∀ p, p < 8 → EN (R_pl r (8 * d + p))) (h1 : 1 ≤ nm) (h2 : nm ≤ 99) :
    (∃ p j, p < 8 ∧ 1 ≤ j ∧ j < 12 ∧ R_pl r (8 * d + p) = nI (100 * j + nm) ∧ f_X2_placeOfName (nI d) (nI nm) c = some (nI p) ∧ f_X3_entry (nI d) (nI nm) r = some (nI p)) ∨ (f_X2_placeOfName (nI d) (nI nm) c = some (-3) ∧ f_X3_entry (nI d) (nI nm) r = some (-1)) := by
  obtain ⟨x, x', e1, e2, hJ⟩ := itl_two (b := fun a : Int32 => b_X2_placeOfName_2 (nI d) (nI nm) c a) (b' := fun a : Int32 => b_X3_entry_2 (nI d) (nI nm) r a) (fun k a a' => a = nI k ∧ a' = nI k)
    (fun x x' => (∃ p j, p < 8 ∧ 1 ≤ j ∧ j < 12 ∧ R_pl r (8 * d + p) = nI (100 * j + nm) ∧ x = .inl (nI p) ∧ x' = .inl (nI p)) ∨ (x = .inr () ∧ x' = .inr ())) 8 (by
      rintro k a a' hk ⟨rfl, rfl⟩
      have hn8 : ¬ (8 : Int32) ≤ nI k := m_nle (N := 8) hk (by omega)
      have E1 : b_X2_placeOfName_2 (nI d) (nI nm) c (nI k) = if R_pl r (8 * d + k) - R_pl r (8 * d + k) / 100 * 100 = nI nm then some (.inl (.inl (nI k))) else some (.inr (nI (k + 1))) := by
        unfold b_X2_placeOfName_2 f_X2_nameOfEntry
        rw [if_neg hn8, rd_p hR hd hk, nI_1]
      have E2 : b_X3_entry_2 (nI d) (nI nm) r (nI k) = if R_pl r (8 * d + k) ≤ 0 then some (.inr (nI (k + 1))) else if R_pl r (8 * d + k) - R_pl r (8 * d + k) / 100 * 100 = nI nm then some (.inl (.inl (nI k))) else some (.inr (nI (k + 1))) := by
        unfold b_X3_entry_2
        rw [if_neg hn8, m_ix8, m_chk (show 8 * d + k < 96 by omega) (by omega), m_chk (show 8 * d + k < 96 by omega) (by omega), m_cl (by omega), nI_1]
      simp only [E1, E2]
      rcases EN_read (hE k hk) with ⟨z1, z2, z3, z4⟩ | ⟨j, n, j1, j2, n1, n2, y1, y2, y3, y4, y5⟩
      · right
        refine ⟨nI (k + 1), nI (k + 1), ?_, ?_, rfl, rfl⟩
        · rw [z3, if_neg (fun e => nI_ne0 (n := nm) (by omega) (by omega) e.symm)]
        · rw [if_pos z4]
      · rw [y3, if_neg y4]
        by_cases e : n = nm
        · left
          subst e
          refine ⟨.inl (nI k), .inl (nI k), by rw [if_pos rfl], by rw [if_pos rfl], Or.inl ⟨k, j, hk, j1, j2, y1, rfl, rfl⟩⟩
        · right
          have ne : ¬ nI n = nI nm := fun q => e (m_inj (by omega) (by omega) q)
          exact ⟨nI (k + 1), nI (k + 1), by rw [if_neg ne], by rw [if_neg ne], rfl, rfl⟩)
    (by
      rintro a a' ⟨rfl, rfl⟩
      refine ⟨.inr (), .inr (), ?_, ?_, Or.inr ⟨rfl, rfl⟩⟩
      · show b_X2_placeOfName_2 (nI d) (nI nm) c (nI 8) = _
        unfold b_X2_placeOfName_2
        rw [if_pos (show (8 : Int32) ≤ nI 8 from Int32.le_refl _)]
      · show b_X3_entry_2 (nI d) (nI nm) r (nI 8) = _
        unfold b_X3_entry_2
        rw [if_pos (show (8 : Int32) ≤ nI 8 from Int32.le_refl _)])
    8 0 300 300 0 0 rfl (by omega) (by omega) ⟨rfl, rfl⟩
  unfold f_X2_placeOfName f_X3_entry
  rw [e1, e2]
  rcases hJ with ⟨p, j, a1, a2, a3, a4, rfl, rfl⟩ | ⟨rfl, rfl⟩
  · exact Or.inl ⟨p, j, a1, a2, a3, a4, rfl, rfl⟩
  · exact Or.inr ⟨rfl, rfl⟩
/-- a place of a directory without an entry -/
theorem pr_ne {c : CS} {r : RS} (hR : RW c r) {d : Nat} (hd : d < 12) :
    (∃ p, p < 8 ∧ R_pl r (8 * d + p) = 0 ∧ f_X2_leastPlaceWithoutEntry (nI d) c = some (nI p) ∧ f_X3_noEntry (nI d) r = some (nI p)) ∨ (f_X2_leastPlaceWithoutEntry (nI d) c = some (-3) ∧ f_X3_noEntry (nI d) r = some (-1)) := by
  obtain ⟨x, x', e1, e2, hJ⟩ := itl_two (b := fun a : Int32 => b_X2_leastPlaceWithoutEntry_2 (nI d) c a) (b' := fun a : Int32 => b_X3_noEntry_2 (nI d) r a) (fun k a a' => a = nI k ∧ a' = nI k)
    (fun x x' => (∃ p, p < 8 ∧ R_pl r (8 * d + p) = 0 ∧ x = .inl (nI p) ∧ x' = .inl (nI p)) ∨ (x = .inr () ∧ x' = .inr ())) 8 (by
      rintro k a a' hk ⟨rfl, rfl⟩
      have hn8 : ¬ (8 : Int32) ≤ nI k := m_nle (N := 8) hk (by omega)
      have E1 : b_X2_leastPlaceWithoutEntry_2 (nI d) c (nI k) = if R_pl r (8 * d + k) = 0 then some (.inl (.inl (nI k))) else some (.inr (nI (k + 1))) := by
        unfold b_X2_leastPlaceWithoutEntry_2
        rw [if_neg hn8, rd_p hR hd hk, nI_1]
      have E2 : b_X3_noEntry_2 (nI d) r (nI k) = if R_pl r (8 * d + k) = 0 then some (.inl (.inl (nI k))) else some (.inr (nI (k + 1))) := by
        unfold b_X3_noEntry_2
        rw [if_neg hn8, m_ix8, m_chk (show 8 * d + k < 96 by omega) (by omega), m_cl (by omega), nI_1]
      simp only [E1, E2]
      by_cases e : R_pl r (8 * d + k) = 0
      · left
        exact ⟨.inl (nI k), .inl (nI k), by rw [if_pos e], by rw [if_pos e], Or.inl ⟨k, hk, e, rfl, rfl⟩⟩
      · right
        exact ⟨nI (k + 1), nI (k + 1), by rw [if_neg e], by rw [if_neg e], rfl, rfl⟩)
    (by
      rintro a a' ⟨rfl, rfl⟩
      refine ⟨.inr (), .inr (), ?_, ?_, Or.inr ⟨rfl, rfl⟩⟩
      · show b_X2_leastPlaceWithoutEntry_2 (nI d) c (nI 8) = _
        unfold b_X2_leastPlaceWithoutEntry_2
        rw [if_pos (show (8 : Int32) ≤ nI 8 from Int32.le_refl _)]
      · show b_X3_noEntry_2 (nI d) r (nI 8) = _
        unfold b_X3_noEntry_2
        rw [if_pos (show (8 : Int32) ≤ nI 8 from Int32.le_refl _)])
    8 0 300 300 0 0 rfl (by omega) (by omega) ⟨rfl, rfl⟩
  unfold f_X2_leastPlaceWithoutEntry f_X3_noEntry
  rw [e1, e2]
  rcases hJ with ⟨p, a1, a2, rfl, rfl⟩ | ⟨rfl, rfl⟩
  · exact Or.inl ⟨p, a1, a2, rfl, rfl⟩
  · exact Or.inr ⟨rfl, rfl⟩
/-- an inode of no kind -/
theorem pr_ni {c : CS} {r : RS} (hR : RW c r) (x1 x2 x3 : Int32) :
    (∃ i, i < 12 ∧ R_kind r i = 0 ∧ f_X2_leastInodeOfNoKind c = some (nI i) ∧ itl (fun a : Int32 => b_X3_make_55 x1 x2 x3 r a) 300 0 = some (nI i)) ∨ (f_X2_leastInodeOfNoKind c = some (-3) ∧ itl (fun a : Int32 => b_X3_make_55 x1 x2 x3 r a) 300 0 = some 12) := by
  obtain ⟨x, x', e1, e2, hJ⟩ := itl_two (b := fun a : Int32 => b_X2_leastInodeOfNoKind_2 c a) (b' := fun a : Int32 => b_X3_make_55 x1 x2 x3 r a) (fun k a a' => a = nI k ∧ a' = nI k)
    (fun x x' => (∃ i, i < 12 ∧ R_kind r i = 0 ∧ x = .inl (nI i) ∧ x' = nI i) ∨ (x = .inr () ∧ x' = 12)) 12 (by
      rintro k a a' hk ⟨rfl, rfl⟩
      have hn : ¬ (12 : Int32) ≤ nI k := m_nle (N := 12) hk (by omega)
      have E1 : b_X2_leastInodeOfNoKind_2 c (nI k) = if R_kind r k = 0 then some (.inl (.inl (nI k))) else some (.inr (nI (k + 1))) := by
        unfold b_X2_leastInodeOfNoKind_2
        rw [if_neg hn, rd_k hR hk, nI_1]
      have E2 : b_X3_make_55 x1 x2 x3 r (nI k) = if R_kind r k = 0 then some (.inl (nI k)) else some (.inr (nI (k + 1))) := by
        unfold b_X3_make_55
        rw [if_neg hn, m_chk hk (by omega), m_cl (by omega), nI_1]
      simp only [E1, E2]
      by_cases e : R_kind r k = 0
      · left
        exact ⟨.inl (nI k), nI k, by rw [if_pos e], by rw [if_pos e], Or.inl ⟨k, hk, e, rfl, rfl⟩⟩
      · right
        exact ⟨nI (k + 1), nI (k + 1), by rw [if_neg e], by rw [if_neg e], rfl, rfl⟩)
    (by
      rintro a a' ⟨rfl, rfl⟩
      refine ⟨.inr (), 12, ?_, ?_, Or.inr ⟨rfl, rfl⟩⟩
      · show b_X2_leastInodeOfNoKind_2 c (nI 12) = _
        unfold b_X2_leastInodeOfNoKind_2
        rw [if_pos (show (12 : Int32) ≤ nI 12 from Int32.le_refl _)]
      · show b_X3_make_55 x1 x2 x3 r (nI 12) = _
        unfold b_X3_make_55
        rw [if_pos (show (12 : Int32) ≤ nI 12 from Int32.le_refl _)]
        rfl)
    12 0 300 300 0 0 rfl (by omega) (by omega) ⟨rfl, rfl⟩
  unfold f_X2_leastInodeOfNoKind
  rw [e1, e2]
  rcases hJ with ⟨i, a1, a2, rfl, rfl⟩ | ⟨rfl, rfl⟩
  · exact Or.inl ⟨i, a1, a2, rfl, rfl⟩
  · exact Or.inr ⟨rfl, rfl⟩
/-- a number that is told to be an inode of a kind -/
theorem pr_ki {c : CS} {r : RS} (hR : RW c r) (x k : Int32) : (∃ i, i < 12 ∧ x = nI i ∧ R_kind r i = k ∧ f_X2_isOfKind x k c = 1 ∧ f_X3_isInode x k r = some 1) ∨ (f_X2_isOfKind x k c = 0 ∧ f_X3_isInode x k r = some 0) := by
  unfold f_X2_isOfKind f_X3_isInode f_X2_isBelow
  rw [show (0 : Int64) = lN 0 from rfl, show (11 : Int64) = lN 11 from rfl, m_in x 0 11 (by omega) (by omega)]
  rcases m_cases x 12 (by omega) with h | h | ⟨i, hi, rfl⟩
  · right
    rw [if_pos h]
    have hn : ¬ (nI 0 ≤ x ∧ x ≤ nI 11) := fun q => Int32.not_le.mpr h q.1
    rw [if_neg hn]
    exact ⟨by simp, by simp⟩
  · right
    have h0 : ¬ x < 0 := fun q => Int32.not_le.mpr (Int32.lt_of_lt_of_le (show (0 : Int32) < nI 12 by decide) h) (Int32.le_of_lt q)
    rw [if_neg h0, if_pos (show (12 : Int32) ≤ x from h)]
    have hn : ¬ (nI 0 ≤ x ∧ x ≤ nI 11) := fun q => Int32.not_le.mpr (Int32.lt_of_lt_of_le (show nI 11 < nI 12 by decide) h) q.2
    rw [if_neg hn]
    exact ⟨by simp, by simp⟩
  · rw [if_neg (nI_pos (by omega)), if_neg (show ¬ (12 : Int32) ≤ nI i from m_nle (N := 12) hi (by omega)), if_pos (show nI 0 ≤ nI i ∧ nI i ≤ nI 11 from ⟨nI_le (by omega) (by omega), nI_le (by omega) (by omega)⟩)]
    rw [if_neg (show ¬ (1 : Int32) = 0 by decide), if_neg (show ¬ (1 : Int32) = 0 by decide), m_chk hi (by omega), m_cl (by omega), rd_k hR hi]
    by_cases e : R_kind r i = k
    · left
      exact ⟨i, hi, rfl, e, by rw [if_pos e], by rw [if_pos e]⟩
    · right
      exact ⟨by rw [if_neg e], by rw [if_neg e]⟩
/-- a number that is told to be a name -/
theorem pr_nm (x : Int32) : (∃ n, 1 ≤ n ∧ n ≤ 99 ∧ x = nI n ∧ f_X2_isName x = 1 ∧ f_X3_isName x = 1) ∨ (f_X2_isName x = 0 ∧ f_X3_isName x = 0) := by
  unfold f_X2_isName f_X3_isName
  rw [show (1 : Int64) = lN 1 from rfl, show (99 : Int64) = lN 99 from rfl, m_in x 1 99 (by omega) (by omega)]
  rcases m_cases x 100 (by omega) with h | h | ⟨i, hi, rfl⟩
  · right
    have h1 : x < 1 := Int32.lt_trans h (by decide)
    have hn : ¬ (nI 1 ≤ x ∧ x ≤ nI 99) := fun q => Int32.not_le.mpr h1 q.1
    rw [if_pos h1, if_neg hn]
    exact ⟨rfl, rfl⟩
  · right
    have h9 : (99 : Int32) < x := Int32.lt_of_lt_of_le (show (99 : Int32) < nI 100 by decide) h
    have h1 : ¬ x < 1 := fun q => Int32.not_le.mpr (Int32.lt_trans q (show (1 : Int32) < 99 by decide)) (Int32.le_of_lt h9)
    have hn : ¬ (nI 1 ≤ x ∧ x ≤ nI 99) := fun q => Int32.not_le.mpr h9 q.2
    rw [if_neg h1, if_pos h9, if_neg hn]
    exact ⟨rfl, rfl⟩
  · by_cases h0 : i = 0
    · right
      subst h0
      decide
    · left
      have h1 : ¬ nI i < 1 := nI_nlt (a := i) (b := 1) (by omega) (by omega)
      have h9 : ¬ (99 : Int32) < nI i := nI_nlt (a := 99) (b := i) (by omega) (by omega)
      rw [if_neg h1, if_neg h9, if_pos (show nI 1 ≤ nI i ∧ nI i ≤ nI 99 from ⟨nI_le (by omega) (by omega), nI_le (by omega) (by omega)⟩)]
      exact ⟨i, by omega, by omega, rfl, rfl, rfl⟩
