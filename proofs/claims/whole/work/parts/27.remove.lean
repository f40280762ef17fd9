/-! counts; remove -/
def cn (Q : Nat → Prop) [DecidablePred Q] : Nat → Nat
  | 0 => 0
  | k + 1 => cn Q k + if Q k then 1 else 0
theorem cn_le (Q : Nat → Prop) [DecidablePred Q] : ∀ k, cn Q k ≤ k
  | 0 => Nat.le_refl 0
  | k + 1 => by
    have := cn_le Q k
    unfold cn
    split <;> omega
theorem cn_0 (Q : Nat → Prop) [DecidablePred Q] : ∀ m, cn Q m = 0 → ∀ k, k < m → ¬ Q k
  | 0, _ => fun k h => by omega
  | m + 1, h => by
    unfold cn at h
    intro k hk
    by_cases c : Q m
    · rw [if_pos c] at h; omega
    · rw [if_neg c] at h
      by_cases e : k = m
      · rw [e]; exact c
      · exact cn_0 Q m h k (by omega)
theorem cn_p (Q : Nat → Prop) [DecidablePred Q] : ∀ m k, k < m → Q k → 0 < cn Q m
  | 0, k, h, _ => by omega
  | m + 1, k, h, q => by
    unfold cn
    by_cases e : k = m
    · rw [if_pos (e ▸ q)]; omega
    · have := cn_p Q m k (by omega) q
      omega
theorem cn_congr {Q Q' : Nat → Prop} [DecidablePred Q] [DecidablePred Q'] : ∀ m, (∀ k, k < m → (Q k ↔ Q' k)) → cn Q m = cn Q' m
  | 0, _ => rfl
  | m + 1, h => by
    unfold cn
    rw [cn_congr m (fun k hk => h k (by omega))]
    by_cases c : Q m
    · rw [if_pos c, if_pos ((h m (by omega)).mp c)]
    · rw [if_neg c, if_neg (fun d => c ((h m (by omega)).mpr d))]
/-- how many entries a directory has -/
theorem pr_eo {c : CS} {r : RS} (hR : RW c r) {i : Nat} (hi : i < 12) : f_X2_entriesOf (nI i) c = some (nI (cn (fun p => ¬ R_pl r (8 * i + p) = 0) 8)) := by
  unfold f_X2_entriesOf
  have h := itl_run (b := fun a : Int32 × Int32 => b_X2_entriesOf_4 (nI i) c a.1 a.2) (fun k => (nI (cn (fun p => ¬ R_pl r (8 * i + p) = 0) k), nI k)) (nI (cn (fun p => ¬ R_pl r (8 * i + p) = 0) 8)) 8 (by
      intro k hk
      dsimp only
      unfold b_X2_entriesOf_4
      rw [if_neg (show ¬ (8 : Int32) ≤ nI k from m_nle (N := 8) hk (by omega)), rd_p hR hi hk, nI_1]
      by_cases e : R_pl r (8 * i + k) = 0
      · rw [if_pos e]
        show _ = some (Sum.inr (nI (cn _ k + if ¬ R_pl r (8 * i + k) = 0 then 1 else 0), nI (k + 1)))
        rw [if_neg (fun q => q e)]
        rfl
      · rw [if_neg e, nI_1]
        show _ = some (Sum.inr (nI (cn _ k + if ¬ R_pl r (8 * i + k) = 0 then 1 else 0), nI (k + 1)))
        rw [if_pos e])
    (by
      dsimp only
      unfold b_X2_entriesOf_4
      rw [if_pos (show (8 : Int32) ≤ nI 8 from Int32.le_refl _)]) 8 0 300 rfl (by omega)
  have h2 : itl (fun a : Int32 × Int32 => b_X2_entriesOf_4 (nI i) c a.1 a.2) 300 ((0 : Int32), (0 : Int32)) = some (nI (cn (fun p => ¬ R_pl r (8 * i + p) = 0) 8)) := h
  rw [h2, Option.bind_some]
theorem pr_hE (r : RS) {i : Nat} (hi : i < 12) : (f_X3_hasEntries (nI i) r = some 0 ∧ ∀ p, p < 8 → R_pl r (8 * i + p) = 0) ∨ (f_X3_hasEntries (nI i) r = some 1 ∧ ∃ p, p < 8 ∧ ¬ R_pl r (8 * i + p) = 0) := by
  unfold f_X3_hasEntries
  have h := itl_fn (b := fun a : Int32 => b_X3_hasEntries_2 (nI i) r a) (fun k => ¬ R_pl r (8 * i + k) = 0) nI (fun _ => (.inl 1 : Int32 ⊕ Unit)) (.inr ()) 8 (by
      intro k hk
      unfold b_X3_hasEntries_2
      rw [if_neg (show ¬ (8 : Int32) ≤ nI k from m_nle (N := 8) hk (by omega)), m_ix8, m_chk (show 8 * i + k < 96 by omega) (by omega), m_cl (by omega), nI_1]
      by_cases e : R_pl r (8 * i + k) = 0
      · rw [if_pos e, if_neg (fun q => q e)]
      · rw [if_neg e, if_pos e])
    (by
      unfold b_X3_hasEntries_2
      rw [if_pos (show (8 : Int32) ≤ nI 8 from Int32.le_refl _)]) 8 0 300 rfl (by omega)
  have h2 : itl (fun a : Int32 => b_X3_hasEntries_2 (nI i) r a) 300 (0 : Int32) = _ := h
  rw [h2]
  cases hf : fn (fun k => ¬ R_pl r (8 * i + k) = 0) 0 8 with
  | none =>
    left
    exact ⟨rfl, fun p hp => Classical.byContradiction (fun q => fn_none 8 0 hf p (by omega) (by omega) q)⟩
  | some p =>
    right
    obtain ⟨h3, h4, h5, _⟩ := fn_some 8 0 p hf
    exact ⟨rfl, p, by omega, h5⟩
theorem mm_remove {c : CS} {r : RS} (hB : RB c r) (hI : IV r) (x1 x2 : Int32) : OKi (R_wr r) (f_X2_remove x1 x2 c) (f_X3_remove x1 x2 r) := by
  unfold f_X2_remove f_X3_remove
  have n10 : ¬ (1 : Int32) = 0 := by decide
  rcases pr_ki hB.1 x1 1 with ⟨d, hd, rfl, hkd, a1, a2⟩ | ⟨a1, a2⟩
  rotate_left
  · rw [if_pos a1, a2, Option.bind_some, if_pos rfl]; exact OK_s hB hI _
  rw [a1, a2, Option.bind_some, if_neg n10, if_neg n10]
  rcases pr_nm x2 with ⟨nm, hn1, hn2, rfl, b1, b2⟩ | ⟨b1, b2⟩
  rotate_left
  · rw [if_pos b1, if_pos b2]; exact OK_s hB hI _
  rw [b1, b2, if_neg n10, if_neg n10]
  by_cases h0 : R_down r = 0
  rotate_left
  · rw [if_neg (fun e => h0 (hB.2.2.2.2.2.symm.trans e)), if_neg h0]; exact OK_s hB hI _
  rw [if_pos (hB.2.2.2.2.2.trans h0), if_pos h0]
  obtain ⟨w1, w2, w3⟩ := hI.2.2.2 h0
  rcases pr_pn hB.1 hd (fun p hp => hI.1.2.2.2.1 d p hd hp hkd) hn1 hn2 with ⟨p, j, hp, hj1, hj2, hpl, c1, c2⟩ | ⟨c1, c2⟩
  rotate_left
  · rw [c1, c2, Option.bind_some, Option.bind_some, if_pos rfl, if_neg (show ¬ (0 : Int32) ≤ -1 by decide)]; exact OK_s hB hI _
  have hdiv : nI (100 * j + nm) / 100 = nI j := by
    rw [show (100 : Int32) = nI 100 from rfl, pk_div (by omega) (by omega) (by omega)]
    congr 1; omega
  have core : OKi (R_wr r) (some (f_X2_answerOrDown (nI j) (f_X0_write (f_X2_inodeAt (nI j) (0 : Int32)) (0 : Int64) (f_X0_write (f_X2_placeAt (nI d) (nI p)) (0 : Int64) c)), f_X0_write (f_X2_inodeAt (nI j) (0 : Int32)) (0 : Int64) (f_X0_write (f_X2_placeAt (nI d) (nI p)) (0 : Int64) c)))
      (if R_down (rW (uK j 0) (rW (uP d p 0) r)) = 0 then some (nI j, rW (uK j 0) (rW (uP d p 0) r)) else some (-2, rW (uK j 0) (rW (uP d p 0) r))) := by
    have g1 : WI (R_kind r) (R_size r) (upd (R_pl r) (8 * d + p) 0) (R_rec r) := WI_P hI.1 hp (fun q => by
      have := q.2.2.1
      rw [hkd] at this
      exact absurd this (by decide)) (fun _ => Or.inl rfl) w1
    have t1 := ST_P (ST_0 hB hI h0) hd hp 0 g1
    have t2 := ST_K t1 hj2 0 (WI_K0 g1 hj1 w1)
    refine OK_end t2 ?_ (nI j) (by omega)
    have hdp : ET (R_kind r) (R_pl r) d p j := ⟨hd, hp, hj2, hkd, nm, hn1, hn2, hpl⟩
    have hT : ∀ d' p' j', ET (upd (R_kind r) j 0) (upd (R_pl r) (8 * d + p) 0) d' p' j' → ET (R_kind r) (R_pl r) d' p' j' ∧ j' ≠ j := by
      rintro d' p' j' ⟨v1, v2, vj, v3, n, v4, v5, v6⟩
      have q2 : d' ≠ j := fun q => by rw [q, pk_us] at v3; exact absurd v3 (by decide)
      rw [pk_un q2] at v3
      have q : 8 * d' + p' ≠ 8 * d + p := fun q => by
        rw [q, pk_us] at v6
        exact absurd v6.symm (nI_ne0 (by omega) (by omega))
      rw [pk_un q] at v6
      have hE : ET (R_kind r) (R_pl r) d' p' j' := ⟨v1, v2, vj, v3, n, v4, v5, v6⟩
      refine ⟨hE, fun q3 => ?_⟩
      subst q3
      obtain ⟨z1, z2⟩ := w3 d' p' d p j' hE hdp
      exact q (by rw [z1, z2])
    refine ⟨w1, fun d' p' j' hE => ?_, fun d1 p1 d2 p2 j' hE1 hE2 => w3 d1 p1 d2 p2 j' (hT _ _ _ hE1).1 (hT _ _ _ hE2).1⟩
    obtain ⟨hE', hne⟩ := hT d' p' j' hE
    rw [pk_un hne]
    exact w2 d' p' j' hE'
  have hie : f_X2_inodeOfEntry (f_X2_placeOf (nI d) (nI p) c) = nI j := by
    rw [rd_p hB.1 hd hp, hpl]
    exact hdiv
  rw [c1, c2, Option.bind_some, Option.bind_some, if_neg (nI_n3 p (by omega)), if_pos (nI_pos' (show p < 2 ^ 31 by omega)), m_ix8, m_chk (show 8 * d + p < 96 by omega) (by omega), m_cl (show 8 * d + p < 2 ^ 31 by omega), hpl, hdiv, m_chk hj2 (by omega), m_cl (show j < 2 ^ 31 by omega), hie, rd_k hB.1 hj2, pr_eo hB.1 hj2, Option.bind_some, w_P r 0 hd hp]
  simp only [Option.bind_some, w_K _ _ hj2]
  by_cases hk1 : R_kind r j = 1
  · rw [if_pos hk1, if_pos hk1]
    rcases pr_hE r hj2 with ⟨e1, e2⟩ | ⟨e1, q, hq, e2⟩
    · rw [e1, Option.bind_some, if_pos rfl]
      have : cn (fun p => ¬ R_pl r (8 * j + p) = 0) 8 = 0 := Nat.eq_zero_of_not_pos (fun hpos => by
        have := cn_0 (fun p => ¬ R_pl r (8 * j + p) = 0) 8
        rcases Nat.eq_zero_or_pos (cn (fun p => ¬ R_pl r (8 * j + p) = 0) 8) with z | z
        · omega
        · have h9 : ∀ m, (∀ k, k < m → ¬ (fun p => ¬ R_pl r (8 * j + p) = 0) k) → cn (fun p => ¬ R_pl r (8 * j + p) = 0) m = 0 := by
            intro m
            induction m with
            | zero => intro _; rfl
            | succ m ih =>
              intro hm
              unfold cn
              rw [ih (fun k hk => hm k (by omega)), if_neg (hm m (by omega))]
          have := h9 8 (fun k hk q => q (e2 k hk))
          omega)
      rw [this, if_pos (show nI 0 ≤ 0 by decide)]
      exact core
    · rw [e1, Option.bind_some, if_neg n10]
      have := cn_p (fun p => ¬ R_pl r (8 * j + p) = 0) 8 q hq e2
      have h8 := cn_le (fun p => ¬ R_pl r (8 * j + p) = 0) 8
      rw [if_neg (nI_nle this (by omega))]
      exact OK_s hB hI _
  · rw [if_neg hk1, if_neg hk1]
    exact core
