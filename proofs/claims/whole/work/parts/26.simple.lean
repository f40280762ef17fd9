/-! the calls that need no search of blocks -/
theorem m_inG (x a b : Int32) : f_X3_in x.toInt64 a.toInt64 b.toInt64 = if a ≤ x ∧ x ≤ b then 1 else 0 := by
  unfold f_X3_in lg_cmp
  have h1 : (a.toInt64 < x.toInt64) ↔ a < x := Int32.toInt64_lt
  have h2 : (b.toInt64 < x.toInt64) ↔ b < x := Int32.toInt64_lt
  have h3 : (x.toInt64 = a.toInt64) ↔ x = a := ⟨fun h => by have := congrArg Int64.toInt32 h; simpa using this, fun h => by rw [h]⟩
  have h4 : (x.toInt64 = b.toInt64) ↔ x = b := ⟨fun h => by have := congrArg Int64.toInt32 h; simpa using this, fun h => by rw [h]⟩
  simp only [gt_iff_lt, h1, h2, h3, h4]
  by_cases c1 : a < x
  · have d1 : a ≤ x := Int32.le_of_lt c1
    by_cases c2 : b < x
    · have d2 : ¬ x ≤ b := Int32.not_le.mpr c2
      simp [c1, c2, d2]
    · have d2 : x ≤ b := Int32.not_lt.mp c2
      by_cases c3 : x = b
      · subst c3
        simp [c1, d1]
      · simp [c1, c2, c3, d1, d2]
  · by_cases c3 : x = a
    · subst c3
      by_cases c2 : b < x
      · have d2 : ¬ x ≤ b := Int32.not_le.mpr c2
        simp [c2, d2]
      · have d2 : x ≤ b := Int32.not_lt.mp c2
        by_cases c4 : x = b
        · rw [c4]; simp
        · simp [c2, c4, d2]
    · have d1 : ¬ a ≤ x := fun h => (Int32.lt_or_eq_of_le h).elim c1 (fun e => c3 e.symm)
      simp [c1, c3, d1]
theorem pr_sz (x : Int32) {n : Nat} (hn : n < 2 ^ 31) : (∃ j, j < n ∧ x = nI j ∧ f_X2_isBelow x (nI n) = 1 ∧ f_X3_in x.toInt64 (0 : Int64) (nI n - 1).toInt64 = 1) ∨ (f_X2_isBelow x (nI n) = 0 ∧ f_X3_in x.toInt64 (0 : Int64) (nI n - 1).toInt64 = 0) := by
  unfold f_X2_isBelow
  rw [show (0 : Int64) = (0 : Int32).toInt64 from rfl, m_inG]
  rcases m_cases x n hn with h | h | ⟨i, hi, rfl⟩
  · right
    have hq : ¬ (0 ≤ x ∧ x ≤ nI n - 1) := fun q => Int32.not_le.mpr h q.1
    rw [if_pos h, if_neg hq]
    exact ⟨rfl, rfl⟩
  · right
    have h0 : ¬ x < 0 := fun q => Int32.not_le.mpr q (Int32.le_trans (nI_pos' hn) h)
    have hq : ¬ (0 ≤ x ∧ x ≤ nI n - 1) := by
      rintro ⟨q1, q2⟩
      cases n with
      | zero => exact Int32.not_le.mpr (show nI 0 - 1 < 0 by decide) (Int32.le_trans q1 q2)
      | succ m =>
        rw [nI_pred] at q2
        exact m_nle (k := m) (N := m + 1) (by omega) hn (Int32.le_trans h q2)
    rw [if_neg h0, if_pos h, if_neg hq]
    exact ⟨rfl, rfl⟩
  · left
    obtain ⟨m, rfl⟩ : ∃ m, n = m + 1 := ⟨n - 1, by omega⟩
    rw [nI_pred]
    rw [if_neg (nI_pos (show i < 2 ^ 31 by omega)), if_neg (m_nle hi hn), if_pos (show 0 ≤ nI i ∧ nI i ≤ nI m from ⟨nI_pos' (by omega), nI_le (by omega) (by omega)⟩)]
    exact ⟨i, hi, rfl, rfl, rfl⟩
theorem mm_isDown {c : CS} {r : RS} (hB : RB c r) : f_X2_isDown c = f_X3_isDown r := by
  unfold f_X2_isDown f_X3_isDown
  rw [hB.2.2.2.2.2]
theorem mm_asked {c : CS} {r : RS} (hB : RB c r) : f_X2_asked c = f_X3_asked r := hB.2.2.2.2.1
theorem mm_cut {c : CS} {r : RS} (hB : RB c r) (hI : IV r) (x : Int32) : OKi (R_wr r) (some (f_X2_cut x c)) (some (f_X3_cut x r)) := by
  have go : LK (sR_left x r) → OKi (R_wr r) (some (C_left c, sC_left x c)) (some (R_left r, sR_left x r)) := fun hk => by
    refine ⟨R_left r, sC_left x c, sR_left x r, by rw [hB.2.1], rfl, ⟨hB.1, rfl, hB.2.2.1, hB.2.2.2.1, hB.2.2.2.2.1, hB.2.2.2.2.2⟩, ⟨hI.1, hk, hI.2.2.1, hI.2.2.2⟩, 0, by omega, (Int32.add_zero _).symm⟩
  unfold f_X2_cut f_X3_cut
  by_cases h : x = -3
  · rw [if_pos h, if_pos h]
    exact go (Or.inl h)
  · rw [if_neg h, if_neg h]
    rcases pr_sz x (n := 41) (by omega) with ⟨j, hj, e, a1, a2⟩ | ⟨a1, a2⟩
    · have b1 : f_X2_isBelow x 41 = 1 := a1
      have b2 : f_X3_in x.toInt64 (0 : Int64) (40 : Int64) = 1 := a2
      rw [b1, b2, if_neg (show ¬ (1 : Int32) = 0 by decide), if_neg (show ¬ (1 : Int32) = 0 by decide)]
      exact go (Or.inr ⟨j, by omega, e⟩)
    · have b1 : f_X2_isBelow x 41 = 0 := a1
      have b2 : f_X3_in x.toInt64 (0 : Int64) (40 : Int64) = 0 := a2
      rw [if_pos b1, if_pos b2]
      exact OK_s hB hI _
theorem mm_find {c : CS} {r : RS} (hB : RB c r) (hI : IV r) (x1 x2 : Int32) : ∃ v, f_X2_find x1 x2 c = some v ∧ f_X3_find x1 x2 r = some v := by
  unfold f_X2_find f_X3_find
  have n10 : ¬ (1 : Int32) = 0 := by decide
  rcases pr_ki hB.1 x1 1 with ⟨d, hd, rfl, hkd, a1, a2⟩ | ⟨a1, a2⟩
  rotate_left
  · rw [if_pos a1, a2, Option.bind_some, if_pos rfl]; exact ⟨_, rfl, rfl⟩
  rw [a1, a2, Option.bind_some, if_neg n10, if_neg n10]
  rcases pr_nm x2 with ⟨nm, hn1, hn2, rfl, b1, b2⟩ | ⟨b1, b2⟩
  rotate_left
  · rw [if_pos b1, if_pos b2]; exact ⟨_, rfl, rfl⟩
  rw [b1, b2, if_neg n10, if_neg n10]
  rcases pr_pn hB.1 hd (fun p hp => hI.1.2.2.2.1 d p hd hp hkd) hn1 hn2 with ⟨p, j, hp, _, _, _, c1, c2⟩ | ⟨c1, c2⟩
  · rw [c1, c2, Option.bind_some, Option.bind_some, if_neg (nI_n3 p (by omega)), if_pos (nI_pos' (show p < 2 ^ 31 by omega)), m_ix8, m_chk (show 8 * d + p < 96 by omega) (by omega), m_cl (by omega), rd_p hB.1 hd hp]
    exact ⟨_, rfl, rfl⟩
  · rw [c1, c2, Option.bind_some, Option.bind_some, if_pos rfl, if_neg (show ¬ (0 : Int32) ≤ -1 by decide)]
    exact ⟨_, rfl, rfl⟩
theorem mm_inode {c : CS} {r : RS} (hB : RB c r) (x1 x2 : Int32) : ∃ v, f_X2_inode x1 x2 c = v ∧ f_X3_inode x1 x2 r = some v := by
  unfold f_X2_inode f_X3_inode
  have n10 : ¬ (1 : Int32) = 0 := by decide
  rcases pr_sz x1 (n := 12) (by omega) with ⟨i, hi, rfl, a1, a2⟩ | ⟨a1, a2⟩
  rotate_left
  · have b1 : f_X2_isBelow x1 12 = 0 := a1
    have b2 : f_X3_in x1.toInt64 (0 : Int64) (11 : Int64) = 0 := a2
    rw [if_pos b1, if_pos b2]; exact ⟨_, rfl, rfl⟩
  have b1 : f_X2_isBelow (nI i) 12 = 1 := a1
  have b2 : f_X3_in (nI i).toInt64 (0 : Int64) (11 : Int64) = 1 := a2
  rw [b1, b2, if_neg n10, if_neg n10]
  rcases pr_sz x2 (n := 10) (by omega) with ⟨w, hw, rfl, d1, d2⟩ | ⟨d1, d2⟩
  rotate_left
  · have e1 : f_X2_isBelow x2 10 = 0 := d1
    have e2 : f_X3_in x2.toInt64 (0 : Int64) (9 : Int64) = 0 := d2
    rw [if_pos e1, if_pos e2]; exact ⟨_, rfl, rfl⟩
  have e1 : f_X2_isBelow (nI w) 10 = 1 := d1
  have e2 : f_X3_in (nI w).toInt64 (0 : Int64) (9 : Int64) = 1 := d2
  rw [e1, e2, if_neg n10, if_neg n10]
  unfold f_X3_inodeOf
  rw [at_iw, rd_w c (show 10 * i + w < 244 by omega)]
  by_cases h0 : w = 0
  · subst h0
    rw [if_pos (show nI 0 = (0 : Int32) from rfl), m_chk hi (by omega), m_cl (by omega), Option.bind_some, show 10 * i + 0 = 10 * i from rfl, hB.1.1 i hi, Int32.toInt32_toInt64]
    exact ⟨_, rfl, rfl⟩
  · rw [if_neg (nI_ne0 (show 0 < w by omega) (by omega))]
    by_cases h1 : w = 1
    · subst h1
      rw [if_pos (show nI 1 = (1 : Int32) from rfl), m_chk hi (by omega), m_cl (by omega), Option.bind_some, hB.1.2.1 i hi, Int32.toInt32_toInt64]
      exact ⟨_, rfl, rfl⟩
    · obtain ⟨p, rfl⟩ : ∃ p, w = p + 2 := ⟨w - 2, by omega⟩
      have hne : ¬ nI (p + 2) = 1 := fun q => h1 (m_inj (a := p + 2) (b := 1) (by omega) (by omega) q)
      have hsub : nI (8 * i + (p + 2)) - (2 : Int32) = nI (8 * i + p) := by
        rw [show (2 : Int32) = nI 2 from rfl, pk_sub (by omega)]
        congr 1
      rw [if_neg hne, m_ix8, hsub, m_chk (show 8 * i + p < 96 by omega) (by omega), m_cl (by omega), Option.bind_some, show 10 * i + (p + 2) = 10 * i + 2 + p by omega, hB.1.2.2.1 i p hi (by omega), Int32.toInt32_toInt64]
      exact ⟨_, rfl, rfl⟩
theorem mm_record {c : CS} {r : RS} (hB : RB c r) (x : Int32) : ∃ v, f_X2_record x c = v ∧ f_X3_record x r = some v := by
  unfold f_X2_record f_X3_record
  rcases pr_sz x (n := 4) (by omega) with ⟨i, hi, rfl, a1, a2⟩ | ⟨a1, a2⟩
  · have b1 : f_X2_isBelow (nI i) 4 = 1 := a1
    have b2 : f_X3_in (nI i).toInt64 (0 : Int64) (3 : Int64) = 1 := a2
    rw [b1, b2, if_neg (show ¬ (1 : Int32) = 0 by decide), if_neg (show ¬ (1 : Int32) = 0 by decide), m_chk hi (by omega), m_cl (by omega), rd_r hB.1 hi]
    exact ⟨_, rfl, rfl⟩
  · have b1 : f_X2_isBelow x 4 = 0 := a1
    have b2 : f_X3_in x.toInt64 (0 : Int64) (3 : Int64) = 0 := a2
    rw [if_pos b1, if_pos b2]; exact ⟨_, rfl, rfl⟩
theorem mm_data {c : CS} {r : RS} (hB : RB c r) (hI : IV r) (x1 x2 : Int32) : OKi (R_wr r) (some (f_X2_data x1 x2 c)) (f_X3_data x1 x2 r) := by
  unfold f_X2_data f_X3_data
  have n10 : ¬ (1 : Int32) = 0 := by decide
  rcases pr_sz x1 (n := 40) (by omega) with ⟨i, hi, rfl, a1, a2⟩ | ⟨a1, a2⟩
  rotate_left
  · have b1 : f_X2_isBelow x1 40 = 0 := a1
    have b2 : f_X3_in x1.toInt64 (0 : Int64) (39 : Int64) = 0 := a2
    rw [if_pos b1, if_pos b2]; exact OK_s hB hI _
  have b1 : f_X2_isBelow (nI i) 40 = 1 := a1
  have b2 : f_X3_in (nI i).toInt64 (0 : Int64) (39 : Int64) = 1 := a2
  rw [b1, b2, if_neg n10, if_neg n10]
  rcases pr_sz x2 (n := 3) (by omega) with ⟨w, hw, rfl, d1, d2⟩ | ⟨d1, d2⟩
  rotate_left
  · have e1 : f_X2_isBelow x2 3 = 0 := d1
    have e2 : f_X3_in x2.toInt64 (0 : Int64) (2 : Int64) = 0 := d2
    rw [if_pos e1, if_pos e2]; exact OK_s hB hI _
  have e1 : f_X2_isBelow (nI w) 3 = 1 := d1
  have e2 : f_X3_in (nI w).toInt64 (0 : Int64) (2 : Int64) = 1 := d2
  rw [e1, e2, if_neg n10, if_neg n10, m_ix3, m_chk (show 3 * i + w < 120 by omega) (by omega), m_cl (by omega), rd_d hB.1 hi hw]
  exact ⟨_, _, _, rfl, rfl, ⟨hB.1, hB.2.1, hB.2.2.1, hB.2.2.2.1, rfl, hB.2.2.2.2.2⟩, hI, 0, by omega, (Int32.add_zero _).symm⟩
/-- data k of block p of a file -/
theorem pr_df {c : CS} {r : RS} (hR : RW c r) (hW : WI (R_kind r) (R_size r) (R_pl r) (R_rec r)) (x1 x2 x3 : Int32) : (∃ i p k b, US (R_kind r) (R_size r) i p ∧ k < 3 ∧ b < 40 ∧ x1 = nI i ∧ x2 = nI p ∧ x3 = nI k ∧ R_pl r (8 * i + p) = nI b ∧ f_X2_isDataOfFile x1 x2 x3 c = 1 ∧ f_X3_isInode x1 2 r = some 1 ∧ f_X3_in x2.toInt64 (0 : Int64) (R_size r i - 1).toInt64 = 1 ∧ f_X3_in x3.toInt64 (0 : Int64) (2 : Int64) = 1) ∨
    (f_X2_isDataOfFile x1 x2 x3 c = 0 ∧ (f_X3_isInode x1 2 r = some 0 ∨ ∃ i, i < 12 ∧ x1 = nI i ∧ f_X3_isInode x1 2 r = some 1 ∧ (f_X3_in x2.toInt64 (0 : Int64) (R_size r i - 1).toInt64 = 0 ∨ (f_X3_in x2.toInt64 (0 : Int64) (R_size r i - 1).toInt64 = 1 ∧ f_X3_in x3.toInt64 (0 : Int64) (2 : Int64) = 0)))) := by
  unfold f_X2_isDataOfFile
  have n10 : ¬ (1 : Int32) = 0 := by decide
  rcases pr_ki hR x1 2 with ⟨i, hi, rfl, hk, a1, a2⟩ | ⟨a1, a2⟩
  rotate_left
  · right
    rw [if_pos a1]
    exact ⟨rfl, Or.inl a2⟩
  rw [a1, if_neg n10, rd_s hR hi]
  obtain ⟨n, hn, hs⟩ := hW.2.2.1 i hi
  rw [hs]
  rcases pr_sz x2 (n := n) (by omega) with ⟨p, hp, rfl, b1, b2⟩ | ⟨b1, b2⟩
  rotate_left
  · right
    rw [if_pos b1]
    exact ⟨rfl, Or.inr ⟨i, hi, rfl, a2, Or.inl (by rw [hs]; exact b2)⟩⟩
  rw [b1, if_neg n10]
  rcases pr_sz x3 (n := 3) (by omega) with ⟨k, hk3, rfl, d1, d2⟩ | ⟨d1, d2⟩
  rotate_left
  · right
    have e1 : f_X2_isBelow x3 3 = 0 := d1
    rw [if_pos e1]
    exact ⟨rfl, Or.inr ⟨i, hi, rfl, a2, Or.inr ⟨by rw [hs]; exact b2, d2⟩⟩⟩
  left
  have e1 : f_X2_isBelow (nI k) 3 = 1 := d1
  rw [e1, if_neg n10]
  have hu : US (R_kind r) (R_size r) i p := ⟨hi, by omega, hk, by rw [hs]; exact nI_lt hp (by omega)⟩
  obtain ⟨b, hb, hpb⟩ := hW.2.2.2.2.1 i p hu
  exact ⟨i, p, k, b, hu, hk3, hb, rfl, rfl, rfl, hpb, rfl, a2, by rw [hs]; exact b2, d2⟩
theorem mm_read {c : CS} {r : RS} (hB : RB c r) (hI : IV r) (x1 x2 x3 : Int32) : OKi (R_wr r) (some (f_X2_read x1 x2 x3 c)) (f_X3_read x1 x2 x3 r) := by
  unfold f_X2_read f_X3_read
  have n10 : ¬ (1 : Int32) = 0 := by decide
  rcases pr_df hB.1 hI.1 x1 x2 x3 with ⟨i, p, k, b, hu, hk, hb, rfl, rfl, rfl, hpb, a1, a2, a3, a4⟩ | ⟨a1, a2 | ⟨i, hi, rfl, a2, a3 | ⟨a3, a4⟩⟩⟩
  · have hi := hu.1
    have hp := hu.2.1
    rw [a1, a2, Option.bind_some, if_neg n10, if_neg n10, m_chk hi (by omega), m_cl (show i < 2 ^ 31 by omega), a3, if_neg n10, a4, if_neg n10, m_ix8, m_chk (show 8 * i + p < 96 by omega) (by omega), m_cl (show 8 * i + p < 2 ^ 31 by omega), hpb, m_ix3, m_chk (show 3 * b + k < 120 by omega) (by omega), m_cl (by omega), rd_p hB.1 hi hp, hpb, rd_d hB.1 hb hk]
    exact ⟨_, _, _, rfl, rfl, ⟨hB.1, hB.2.1, hB.2.2.1, hB.2.2.2.1, rfl, hB.2.2.2.2.2⟩, hI, 0, by omega, (Int32.add_zero _).symm⟩
  · rw [if_pos a1, a2, Option.bind_some, if_pos rfl]; exact OK_s hB hI _
  · rw [if_pos a1, a2, Option.bind_some, if_neg n10, m_chk hi (by omega), m_cl (by omega), if_pos a3]; exact OK_s hB hI _
  · rw [if_pos a1, a2, Option.bind_some, if_neg n10, m_chk hi (by omega), m_cl (by omega), a3, if_neg n10, if_pos a4]; exact OK_s hB hI _
theorem mm_put {c : CS} {r : RS} (hB : RB c r) (hI : IV r) (x1 x2 x3 : Int32) (x4 : Int64) : OKi (R_wr r) (some (f_X2_put x1 x2 x3 x4 c)) (f_X3_put x1 x2 x3 x4 r) := by
  unfold f_X2_put f_X3_put
  have n10 : ¬ (1 : Int32) = 0 := by decide
  rcases pr_df hB.1 hI.1 x1 x2 x3 with ⟨i, p, k, b, hu, hk, hb, rfl, rfl, rfl, hpb, a1, a2, a3, a4⟩ | ⟨a1, a2 | ⟨i, hi, rfl, a2, a3 | ⟨a3, a4⟩⟩⟩
  · have hi := hu.1
    have hp := hu.2.1
    rw [a1, a2, Option.bind_some, if_neg n10, if_neg n10, m_chk hi (by omega), m_cl (show i < 2 ^ 31 by omega), a3, if_neg n10, a4, if_neg n10]
    by_cases h0 : R_down r = 0
    rotate_left
    · rw [if_neg (fun e => h0 (hB.2.2.2.2.2.symm.trans e)), if_neg h0]; exact OK_s hB hI _
    rw [if_pos (hB.2.2.2.2.2.trans h0), if_pos h0, m_ix8, m_chk (show 8 * i + p < 96 by omega) (by omega), m_cl (show 8 * i + p < 2 ^ 31 by omega), hpb, w_D r x4 hb hk, Option.bind_some]
    rw [rd_p hB.1 hi hp, hpb]
    exact OK_end (ST_D (ST_0 hB hI h0) hb hk x4 hI.1) (hI.2.2.2 h0) 1 (by omega)
  · rw [if_pos a1, a2, Option.bind_some, if_pos rfl]; exact OK_s hB hI _
  · rw [if_pos a1, a2, Option.bind_some, if_neg n10, m_chk hi (by omega), m_cl (by omega), if_pos a3]; exact OK_s hB hI _
  · rw [if_pos a1, a2, Option.bind_some, if_neg n10, m_chk hi (by omega), m_cl (by omega), a3, if_neg n10, if_pos a4]; exact OK_s hB hI _
