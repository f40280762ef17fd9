/-! rename -/
theorem UU_K {r : RS} : ∀ (n x i : Nat), UU r n x i → R_kind r x = 1 → R_kind r i = 1
  | 0, x, i, h, hk => by have h : x = i := h; rw [← h]; exact hk
  | n + 1, x, i, ⟨d, ⟨p, h1⟩, h2⟩, _ => UU_K n d i h2 h1.2.2.2.1
theorem mm_rename {c : CS} {r : RS} (hB : RB c r) (hI : IV r) (x1 x2 x3 x4 : Int32) : OKi (R_wr r) (f_X2_rename x1 x2 x3 x4 c) (f_X3_rename x1 x2 x3 x4 r) := by
  unfold f_X2_rename f_X3_rename
  have n10 : ¬ (1 : Int32) = 0 := by decide
  rcases pr_ki hB.1 x1 1 with ⟨d, hd, rfl, hkd, a1, a2⟩ | ⟨a1, a2⟩
  rotate_left
  · rw [if_pos a1, a2, Option.bind_some, if_pos rfl]; exact OK_s hB hI _
  rw [a1, a2, Option.bind_some, if_neg n10, if_neg n10]
  rcases pr_nm x2 with ⟨nm, hn1, hn2, rfl, b1, b2⟩ | ⟨b1, b2⟩
  rotate_left
  · rw [if_pos b1, if_pos b2]; exact OK_s hB hI _
  rw [b1, b2, if_neg n10, if_neg n10]
  rcases pr_ki hB.1 x3 1 with ⟨t, ht, rfl, hkt, a3, a4⟩ | ⟨a3, a4⟩
  rotate_left
  · rw [if_pos a3, a4, Option.bind_some, if_pos rfl]; exact OK_s hB hI _
  rw [a3, a4, Option.bind_some, if_neg n10, if_neg n10]
  rcases pr_nm x4 with ⟨om, ho1, ho2, rfl, b3, b4⟩ | ⟨b3, b4⟩
  rotate_left
  · rw [if_pos b3, if_pos b4]; exact OK_s hB hI _
  rw [b3, b4, if_neg n10, if_neg n10]
  by_cases h0 : R_down r = 0
  rotate_left
  · rw [if_neg (fun e => h0 (hB.2.2.2.2.2.symm.trans e)), if_neg h0]; exact OK_s hB hI _
  rw [if_pos (hB.2.2.2.2.2.trans h0), if_pos h0]
  obtain ⟨w1, w2, w3⟩ := hI.2.2.2 h0
  rcases pr_pn hB.1 hd (fun p hp => hI.1.2.2.2.1 d p hd hp hkd) hn1 hn2 with ⟨p, j, hp, hj1, hj2, hpl, c1, c2⟩ | ⟨c1, c2⟩
  rotate_left
  · rw [c1, c2, Option.bind_some, Option.bind_some, if_pos rfl, if_neg (show ¬ (0 : Int32) ≤ -1 by decide)]; exact OK_s hB hI _
  rw [c1, c2, Option.bind_some, Option.bind_some, if_neg (nI_n3 p (by omega)), if_pos (nI_pos' (show p < 2 ^ 31 by omega))]
  rcases pr_pn hB.1 ht (fun p hp => hI.1.2.2.2.1 t p ht hp hkt) ho1 ho2 with ⟨p', j', hp', _, _, _, c3, c4⟩ | ⟨c3, c4⟩
  · rw [c3, c4, Option.bind_some, Option.bind_some, if_neg (nI_n3 p' (by omega)), if_neg (nI_pos (show p' < 2 ^ 31 by omega))]; exact OK_s hB hI _
  rw [c3, c4, Option.bind_some, Option.bind_some, if_pos rfl, if_pos (show (-1 : Int32) < 0 by decide)]
  rcases pr_ne hB.1 ht with ⟨f, hf, hpf, f1, f2⟩ | ⟨f1, f2⟩
  rotate_left
  · rw [f1, f2, Option.bind_some, Option.bind_some, if_pos rfl, if_neg (show ¬ (0 : Int32) ≤ -1 by decide)]; exact OK_s hB hI _
  have hdiv : nI (100 * j + nm) / 100 = nI j := by
    rw [show (100 : Int32) = nI 100 from rfl, pk_div (by omega) (by omega) (by omega)]
    congr 1; omega
  have hie : f_X2_inodeOfEntry (f_X2_placeOf (nI d) (nI p) c) = nI j := by
    rw [rd_p hB.1 hd hp, hpl]
    exact hdiv
  have hen : f_X2_entryOf (nI j) (nI om) = nI (100 * j + om) := by
    unfold f_X2_entryOf
    rw [show (100 : Int32) = nI 100 from rfl, pk_mul, nI_add, Nat.mul_comm]
  have hdp : ET (R_kind r) (R_pl r) d p j := ⟨hd, hp, hj2, hkd, nm, hn1, hn2, hpl⟩
  have core : OKi (R_wr r) (some (f_X2_answerOrDown (nI j) (f_X0_write (f_X2_placeAt (nI d) (nI p)) (0 : Int64) (f_X0_write (f_X2_placeAt (nI t) (nI f)) (nI (100 * j + om)).toInt64 c)), f_X0_write (f_X2_placeAt (nI d) (nI p)) (0 : Int64) (f_X0_write (f_X2_placeAt (nI t) (nI f)) (nI (100 * j + om)).toInt64 c)))
      (if R_down (rW (uP d p 0) (rW (uP t f (nI (100 * j + om))) r)) = 0 then some (nI j, rW (uP d p 0) (rW (uP t f (nI (100 * j + om))) r)) else some (-2, rW (uP d p 0) (rW (uP t f (nI (100 * j + om))) r))) := by
    have g1 : WI (R_kind r) (R_size r) (upd (R_pl r) (8 * t + f) (nI (100 * j + om))) (R_rec r) := WI_P hI.1 hf (fun q => by
      have := q.2.2.1
      rw [hkt] at this
      exact absurd this (by decide)) (fun _ => Or.inr ⟨j, om, hj1, hj2, ho1, ho2, rfl⟩) w1
    have g2 : WI (R_kind r) (R_size r) (upd (upd (R_pl r) (8 * t + f) (nI (100 * j + om))) (8 * d + p) 0) (R_rec r) := WI_P g1 hp (fun q => by
      have := q.2.2.1
      rw [hkd] at this
      exact absurd this (by decide)) (fun _ => Or.inl rfl) w1
    have t1 := ST_P (ST_0 hB hI h0) ht hf (nI (100 * j + om)) g1
    have t2 := ST_P t1 hd hp 0 g2
    refine OK_end t2 ?_ (nI j) (by omega)
    have hT : ∀ d' p' j', ET (R_kind r) (upd (upd (R_pl r) (8 * t + f) (nI (100 * j + om))) (8 * d + p) 0) d' p' j' → (d' = t ∧ p' = f ∧ j' = j) ∨ (ET (R_kind r) (R_pl r) d' p' j' ∧ j' ≠ j) := by
      rintro d' p' j' ⟨v1, v2, vj, v3, n, v4, v5, v6⟩
      have q : 8 * d' + p' ≠ 8 * d + p := fun q => by
        rw [q, pk_us] at v6
        exact absurd v6.symm (nI_ne0 (by omega) (by omega))
      rw [pk_un q] at v6
      by_cases q2 : 8 * d' + p' = 8 * t + f
      · left
        rw [q2, pk_us] at v6
        have := m_inj (a := 100 * j + om) (b := 100 * j' + n) (by omega) (by omega) v6
        exact ⟨by omega, by omega, by omega⟩
      · rw [pk_un q2] at v6
        right
        have hE : ET (R_kind r) (R_pl r) d' p' j' := ⟨v1, v2, vj, v3, n, v4, v5, v6⟩
        refine ⟨hE, fun q3 => ?_⟩
        subst q3
        obtain ⟨z1, z2⟩ := w3 d' p' d p j' hE hdp
        exact q (by rw [z1, z2])
    refine ⟨w1, fun d' p' j' hE => ?_, fun d1 p1 d2 p2 j' hE1 hE2 => ?_⟩
    · rcases hT d' p' j' hE with ⟨_, _, rfl⟩ | ⟨hE', _⟩
      · exact w2 d p j' hdp
      · exact w2 d' p' j' hE'
    · rcases hT d1 p1 j' hE1 with ⟨rfl, rfl, rfl⟩ | ⟨hE1', hne1⟩ <;> rcases hT d2 p2 j' hE2 with ⟨rfl, rfl, q⟩ | ⟨hE2', hne2⟩
      · exact ⟨rfl, rfl⟩
      · exact absurd rfl hne2
      · exact absurd q hne1
      · exact w3 d1 p1 d2 p2 j' hE1' hE2'
  have hUq : ∀ x d e, PAR r x d → PAR r x e → d = e := fun x d e ⟨p, h1⟩ ⟨q, h2⟩ => (w3 d p e q x h1 h2).1
  rw [f1, f2, Option.bind_some, Option.bind_some, if_neg (nI_n3 f (by omega)), if_pos (nI_pos' (show f < 2 ^ 31 by omega)), m_ix8, m_chk (show 8 * d + p < 96 by omega) (by omega), m_cl (show 8 * d + p < 2 ^ 31 by omega), hpl, hdiv, m_chk hj2 (by omega), m_cl (show j < 2 ^ 31 by omega), hie, hen, show (100 : Int32) * nI j + nI om = nI (100 * j + om) by rw [show (100 : Int32) = nI 100 from rfl, pk_mul, nI_add], w_P r _ ht hf]
  simp only [Option.bind_some, w_P _ _ hd hp]
  by_cases hk1 : R_kind r j = 1
  · rw [if_pos hk1]
    rcases pr_wc hB.1 hI.1 hUq ht hj2 with ⟨q1, n, q2⟩ | ⟨q1, q2⟩
    · rcases pr_wr r hI.1 ht hj2 with ⟨s1, s2⟩ | ⟨s1, s2⟩
      · rw [q1, s1, Option.bind_some, Option.bind_some, if_neg n10, if_neg n10]; exact OK_s hB hI _
      · exact absurd q2 (s2 n)
    · rcases pr_wr r hI.1 ht hj2 with ⟨s1, n, s2⟩ | ⟨s1, s2⟩
      · exact absurd s2 (q2 n)
      · rw [q1, s1, Option.bind_some, Option.bind_some, if_pos rfl, if_pos rfl]; exact core
  · rw [if_neg hk1]
    rcases pr_wc hB.1 hI.1 hUq ht hj2 with ⟨q1, n, q2⟩ | ⟨q1, q2⟩
    · exact absurd (UU_K n t j q2 hkt) hk1
    · rw [q1, Option.bind_some, if_pos rfl]; exact core
/-! runs -/
theorem mm_runs {c : CS} {r : RS} (hB : RB c r) (hI : IV r) (x1 : Int32) : ∃ v, f_X2_runs x1 c = some v ∧ f_X3_runs x1 r = some v := by
  unfold f_X2_runs f_X3_runs
  have n10 : ¬ (1 : Int32) = 0 := by decide
  rcases pr_ki hB.1 x1 2 with ⟨i, hi, rfl, hk, a1, a2⟩ | ⟨a1, a2⟩
  rotate_left
  · rw [if_pos a1, a2, Option.bind_some, if_pos rfl]; exact ⟨_, rfl, rfl⟩
  rw [a1, a2, Option.bind_some, if_neg n10, if_neg n10, rd_s hB.1 hi]
  obtain ⟨n, hn, hs⟩ := hI.1.2.2.1 i hi
  rw [hs]
  obtain ⟨x, x', e1, e2, hJ⟩ := itl_two (b := fun a : Int32 × Int32 => b_X2_runs_22 (nI i) (nI n) c a.1 a.2) (b' := fun a : Int32 × Int32 => b_X3_runs_15 (nI i) r a.1 a.2) (fun k a a' => a = a' ∧ a.2 = nI k) (fun x x' => x = x') n (by
      rintro k ⟨a, a2⟩ ⟨a', a2'⟩ hk' ⟨h1, h2⟩
      cases h1
      dsimp only at h2
      subst h2
      right
      have hle : ¬ nI n ≤ nI k := m_nle hk' (by omega)
      by_cases k0 : k = 0
      · subst k0
        refine ⟨(a + 1, nI (0 + 1)), (a + 1, nI (0 + 1)), ?_, ?_, rfl, rfl⟩
        · dsimp only
          unfold b_X2_runs_22
          rw [if_neg hle, if_pos (show nI 0 = (0 : Int32) from rfl), nI_1]
        · dsimp only
          unfold b_X3_runs_15
          rw [m_chk hi (by omega), m_cl (by omega), hs, if_neg hle, if_pos (show nI 0 = (0 : Int32) from rfl), nI_1]
      · obtain ⟨m, rfl⟩ : ∃ m, k = m + 1 := ⟨k - 1, by omega⟩
        have hz : ¬ nI (m + 1) = 0 := nI_ne0 (by omega) (by omega)
        have hsub : nI (8 * i + (m + 1)) - (1 : Int32) = nI (8 * i + m) := by rw [← Nat.add_assoc, nI_pred]
        have E1 : b_X2_runs_22 (nI i) (nI n) c a (nI (m + 1)) = if R_pl r (8 * i + (m + 1)) = R_pl r (8 * i + m) + 1 then some (.inr (a, nI (m + 1 + 1))) else some (.inr (a + 1, nI (m + 1 + 1))) := by
          unfold b_X2_runs_22
          rw [if_neg hle, if_neg hz, nI_pred, rd_p hB.1 hi (by omega), rd_p hB.1 hi (by omega), nI_1]
        have E2 : b_X3_runs_15 (nI i) r a (nI (m + 1)) = if R_pl r (8 * i + (m + 1)) = R_pl r (8 * i + m) + 1 then some (.inr (a, nI (m + 1 + 1))) else some (.inr (a + 1, nI (m + 1 + 1))) := by
          unfold b_X3_runs_15
          rw [m_chk hi (by omega), m_cl (show i < 2 ^ 31 by omega), hs, if_neg hle, if_neg hz, m_ix8, m_chk (show 8 * i + (m + 1) < 96 by omega) (by omega), hsub, m_chk (show 8 * i + m < 96 by omega) (by omega), m_cl (show 8 * i + (m + 1) < 2 ^ 31 by omega), m_cl (show 8 * i + m < 2 ^ 31 by omega), nI_1, Int32.add_zero]
        by_cases e : R_pl r (8 * i + (m + 1)) = R_pl r (8 * i + m) + 1
        · exact ⟨(a, nI (m + 1 + 1)), (a, nI (m + 1 + 1)), by dsimp only; rw [E1, if_pos e], by dsimp only; rw [E2, if_pos e], rfl, rfl⟩
        · exact ⟨(a + 1, nI (m + 1 + 1)), (a + 1, nI (m + 1 + 1)), by dsimp only; rw [E1, if_neg e], by dsimp only; rw [E2, if_neg e], rfl, rfl⟩)
    (by
      rintro ⟨a, a2⟩ ⟨a', a2'⟩ ⟨h1, h2⟩
      cases h1
      dsimp only at h2
      subst h2
      refine ⟨a, a, ?_, ?_, rfl⟩
      · dsimp only
        unfold b_X2_runs_22
        rw [if_pos (Int32.le_refl _)]
      · dsimp only
        unfold b_X3_runs_15
        rw [m_chk hi (by omega), m_cl (by omega), hs, if_pos (Int32.le_refl _)])
    n 0 300 300 ((0 : Int32), (0 : Int32)) ((0 : Int32), (0 : Int32)) (by omega) (by omega) (by omega) ⟨rfl, rfl⟩
  rw [e1, e2, Option.bind_some, Option.bind_some, hJ]
  exact ⟨_, rfl, rfl⟩
