/-! who is within whom -/
def PAR (r : RS) (x d : Nat) : Prop := ∃ p, ET (R_kind r) (R_pl r) d p x
def UU (r : RS) : Nat → Nat → Nat → Prop
  | 0, x, i => x = i
  | n + 1, x, i => ∃ d, PAR r x d ∧ UU r n d i
theorem pigeon : ∀ (N : Nat) (f : Nat → Nat), (∀ k, k ≤ N → f k < N) → ∃ a b, a < b ∧ b ≤ N ∧ f a = f b
  | 0, f, h => absurd (h 0 (Nat.le_refl _)) (by omega)
  | N + 1, f, h => by
    by_cases e : ∃ a, a < N + 1 ∧ f a = f (N + 1)
    · obtain ⟨a, h1, h2⟩ := e
      exact ⟨a, N + 1, h1, Nat.le_refl _, h2⟩
    · have hne : ∀ a, a < N + 1 → f a ≠ f (N + 1) := fun a ha q => e ⟨a, ha, q⟩
      have hv := h (N + 1) (Nat.le_refl _)
      obtain ⟨a, b, h1, h2, h3⟩ := pigeon N (fun k => if f k > f (N + 1) then f k - 1 else f k) (fun k hk => by
        have h1 := h k (by omega)
        have h2 := hne k (by omega)
        split <;> omega)
      have ha := hne a (by omega)
      have hb := hne b (by omega)
      refine ⟨a, b, h1, by omega, ?_⟩
      split at h3 <;> split at h3 <;> omega
section WTN
variable {r : RS} (hU : ∀ x d e, PAR r x d → PAR r x e → d = e)
theorem UU_split : ∀ (m n x i : Nat), UU r (m + n) x i ↔ ∃ a, UU r m x a ∧ UU r n a i
  | 0, n, x, i => by
    rw [Nat.zero_add]
    exact ⟨fun h => ⟨x, rfl, h⟩, fun ⟨a, h1, h2⟩ => by have h1 : x = a := h1; rw [h1]; exact h2⟩
  | m + 1, n, x, i => by
    rw [Nat.add_right_comm]
    constructor
    · rintro ⟨d, h1, h2⟩
      obtain ⟨a, h3, h4⟩ := (UU_split m n d i).mp h2
      exact ⟨a, ⟨d, h1, h3⟩, h4⟩
    · rintro ⟨a, ⟨d, h1, h3⟩, h4⟩
      exact ⟨d, h1, (UU_split m n d i).mpr ⟨a, h3, h4⟩⟩
theorem UU_one {n x a b : Nat} (hU : ∀ x d e, PAR r x d → PAR r x e → d = e) : UU r n x a → UU r n x b → a = b := by
  induction n generalizing x with
  | zero =>
    intro h1 h2
    have h1 : x = a := h1
    have h2 : x = b := h2
    rw [← h1, ← h2]
  | succ n ih =>
    rintro ⟨d, h1, h2⟩ ⟨e, h3, h4⟩
    have := hU x d e h1 h3
    subst this
    exact ih h2 h4
theorem PAR_lt {x d : Nat} (h : PAR r x d) : x < 12 ∧ d < 12 := by
  obtain ⟨p, h⟩ := h
  exact ⟨h.2.2.1, h.1⟩
theorem UU_lt {n x i : Nat} (hx : x < 12) : UU r n x i → i < 12 := by
  induction n generalizing x with
  | zero => intro h; have h : x = i := h; omega
  | succ n ih =>
    rintro ⟨d, h1, h2⟩
    exact ih (PAR_lt h1).2 h2
theorem UU_short {x i : Nat} (hx : x < 12) : ∀ n, UU r n x i → ∃ m, m < 12 ∧ UU r m x i := by
  intro n
  induction n using Nat.strongRecOn with
  | ind n ih =>
    intro h
    by_cases hn : n < 12
    · exact ⟨n, hn, h⟩
    · have hc : ∀ k, k ≤ 12 → ∃ a, UU r k x a ∧ UU r (n - k) a i := fun k hk => (UU_split k (n - k) x i).mp (by rw [show k + (n - k) = n by omega]; exact h)
      have hc2 : ∀ k, ∃ a, k ≤ 12 → UU r k x a ∧ UU r (n - k) a i := fun k => by
        by_cases q : k ≤ 12
        · obtain ⟨a, ha⟩ := hc k q
          exact ⟨a, fun _ => ha⟩
        · exact ⟨0, fun z => absurd z q⟩
      obtain ⟨a, b, h1, h2, h3⟩ := pigeon 12 (fun k => Classical.choose (hc2 k)) (fun k hk => UU_lt hx (Classical.choose_spec (hc2 k) hk).1)
      have ha := Classical.choose_spec (hc2 a) (by omega)
      have hb := Classical.choose_spec (hc2 b) h2
      have h3 : Classical.choose (hc2 a) = Classical.choose (hc2 b) := h3
      rw [← h3] at hb
      refine ih (a + (n - b)) (by omega) ((UU_split a (n - b) x i).mpr ⟨_, ha.1, hb.2⟩)
end WTN
/-- the class goes up -/
theorem pr_wc {c : CS} {r : RS} (hR : RW c r) (hW : WI (R_kind r) (R_size r) (R_pl r) (R_rec r)) (hU : ∀ x d e, PAR r x d → PAR r x e → d = e) {t i : Nat} (ht : t < 12) (hi : i < 12) : (f_X2_isWithin (nI t) (nI i) c = some 1 ∧ ∃ n, UU r n t i) ∨ (f_X2_isWithin (nI t) (nI i) c = some 0 ∧ ∀ n, ¬ UU r n t i) := by
  obtain ⟨x, h1, hJ⟩ := itl_ix (b := fun a : Int32 × Int32 => b_X2_isWithin_5 (nI i) c a.1 a.2) (fun k a => a.2 = nI k ∧ (∀ n, n < k → ¬ UU r n t i) ∧ ((∃ y, y < 12 ∧ a.1 = nI y ∧ UU r k t y) ∨ (a.1 = -3 ∧ ∀ n, k ≤ n → ¬ UU r n t i)))
    (fun x => (x = .inl 1 ∧ ∃ n, UU r n t i) ∨ (x = .inr () ∧ ∀ n, ¬ UU r n t i)) 12 (by
      rintro k ⟨a, a2⟩ hk ⟨ha, hn, hat⟩
      dsimp only at ha hn hat
      subst ha
      have hn12 : ¬ (12 : Int32) ≤ nI k := m_nle (N := 12) hk (by omega)
      rcases hat with ⟨y, hy, rfl, hy2⟩ | ⟨rfl, hno⟩
      · have hn3 : ¬ nI y = -3 := nI_n3 y (by omega)
        by_cases e : y = i
        · left
          subst e
          refine ⟨.inl 1, ?_, Or.inl ⟨rfl, k, hy2⟩⟩
          dsimp only
          unfold b_X2_isWithin_5
          rw [if_neg hn12, if_neg hn3, if_pos rfl]
        · right
          have hne : ¬ nI y = nI i := fun q => e (m_inj (by omega) (by omega) q)
          have hkn : ∀ n, n < k + 1 → ¬ UU r n t i := by
            intro n h q
            by_cases z : n = k
            · subst z
              exact e (UU_one hU hy2 q)
            · exact hn n (by omega) q
          rcases pr_da hR hW hy with ⟨d, p, e1, e2⟩ | ⟨e1, e2⟩
          · refine ⟨(nI d, nI (k + 1)), ?_, rfl, hkn, Or.inl ⟨d, e1.1, rfl, (UU_split k 1 t d).mpr ⟨y, hy2, d, ⟨p, e1⟩, rfl⟩⟩⟩
            dsimp only
            unfold b_X2_isWithin_5
            rw [if_neg hn12, if_neg hn3, if_neg hne, e2, Option.bind_some, nI_1]
          · refine ⟨(-3, nI (k + 1)), ?_, rfl, hkn, Or.inr ⟨rfl, fun n hn' q => ?_⟩⟩
            · dsimp only
              unfold b_X2_isWithin_5
              rw [if_neg hn12, if_neg hn3, if_neg hne, e1, Option.bind_some, nI_1]
            · obtain ⟨z, z1, z2⟩ := (UU_split (k + 1) (n - (k + 1)) t i).mp (by rw [show k + 1 + (n - (k + 1)) = n by omega]; exact q)
              obtain ⟨y', z3, z4⟩ := (UU_split k 1 t z).mp z1
              obtain ⟨d, ⟨p, z5⟩, _⟩ := z4
              have := UU_one hU hy2 z3
              subst this
              exact e2 d p z5
      · left
        refine ⟨.inr (), ?_, Or.inr ⟨rfl, fun n q => ?_⟩⟩
        · dsimp only
          unfold b_X2_isWithin_5
          rw [if_neg hn12, if_pos rfl]
        · by_cases z : n < k
          · exact hn n z q
          · exact hno n (by omega) q)
    (by
      rintro ⟨a, a2⟩ ⟨ha, hn, _⟩
      dsimp only at ha hn
      subst ha
      refine ⟨.inr (), ?_, Or.inr ⟨rfl, fun n q => ?_⟩⟩
      · dsimp only
        unfold b_X2_isWithin_5
        rw [if_pos (show (12 : Int32) ≤ nI 12 from Int32.le_refl _)]
      · obtain ⟨m, h1, h2⟩ := UU_short ht n q
        exact hn m h1 h2)
    12 0 300 (nI t, (0 : Int32)) rfl (by omega) ⟨rfl, fun n h => by omega, Or.inl ⟨t, ht, rfl, rfl⟩⟩
  unfold f_X2_isWithin
  rw [h1, Option.bind_some]
  rcases hJ with ⟨rfl, z⟩ | ⟨rfl, z⟩
  · exact Or.inl ⟨rfl, z⟩
  · exact Or.inr ⟨rfl, z⟩
/-- the reference goes down: one pass -/
def SB (r : RS) (i : Nat) (B : Int32) : Prop := ∀ x, x < 32 → bt B x = true → x < 12 ∧ ∃ n, UU r n x i
theorem pr_pass (r : RS) (hW : WI (R_kind r) (R_size r) (R_pl r) (R_rec r)) {i : Nat} (y1 y5 : Int32) {B0 : Int32} (hB : SB r i B0) : ∃ B, itl (fun a : Int32 × Int32 => b_X3_isWithin_18 y1 y5 r a.1 a.2) 300 (B0, (0 : Int32)) = some B ∧ SB r i B ∧ (∀ x, x < 32 → bt B0 x = true → bt B x = true) ∧ (∀ d p j, ET (R_kind r) (R_pl r) d p j → bt B0 d = true → bt B j = true) := by
  obtain ⟨x, h1, hJ⟩ := itl_ix (b := fun a : Int32 × Int32 => b_X3_isWithin_18 y1 y5 r a.1 a.2) (fun e a => a.2 = nI e ∧ SB r i a.1 ∧ (∀ x, x < 32 → bt B0 x = true → bt a.1 x = true) ∧ (∀ d p j, d < e → ET (R_kind r) (R_pl r) d p j → bt B0 d = true → bt a.1 j = true))
    (fun B => SB r i B ∧ (∀ x, x < 32 → bt B0 x = true → bt B x = true) ∧ (∀ d p j, ET (R_kind r) (R_pl r) d p j → bt B0 d = true → bt B j = true)) 12 (by
      rintro e ⟨B, a2⟩ he ⟨ha, hs, hm, hp⟩
      dsimp only at ha hs hm hp
      subst ha
      right
      have hn12 : ¬ (12 : Int32) ≤ nI e := m_nle (N := 12) he (by omega)
      obtain ⟨B', g1, g2, g3, g4⟩ := itl_ix (b := fun a : Int32 × Int32 => b_X3_isWithin_28 y1 y5 (nI e) r a.1 a.2) (fun p a => a.2 = nI p ∧ SB r i a.1 ∧ (∀ x, x < 32 → bt B x = true → bt a.1 x = true) ∧ (∀ p' j, p' < p → ET (R_kind r) (R_pl r) e p' j → bt B e = true → bt a.1 j = true))
        (fun B' => SB r i B' ∧ (∀ x, x < 32 → bt B x = true → bt B' x = true) ∧ (∀ p' j, ET (R_kind r) (R_pl r) e p' j → bt B e = true → bt B' j = true)) 8 (by
          rintro p ⟨Q, a2⟩ hp8 ⟨ha, qs, qm, qp⟩
          dsimp only at ha qs qm qp
          subst ha
          have hn8 : ¬ (8 : Int32) ≤ nI p := m_nle (N := 8) hp8 (by omega)
          have E : b_X3_isWithin_28 y1 y5 (nI e) r Q (nI p) = if R_kind r e = 1 then (if ((Q >>> (nI e &&& 31)) &&& (1 : Int32)) = (1 : Int32) then (if R_pl r (8 * e + p) ≤ 0 then some (.inr (Q ||| 0, nI (p + 1))) else some (.inr (Q ||| ((1 : Int32) <<< ((R_pl r (8 * e + p) / 100) &&& 31)), nI (p + 1)))) else some (.inl Q)) else some (.inl Q) := by
            unfold b_X3_isWithin_28
            rw [if_neg hn8, m_chk he (by omega), m_cl (show e < 2 ^ 31 by omega), m_ix8, m_chk (show 8 * e + p < 96 by omega) (by omega), m_chk (show 8 * e + p < 96 by omega) (by omega), m_cl (by omega), nI_1]
          by_cases hk : R_kind r e = 1
          · rw [if_pos hk] at E
            by_cases hb : bt Q e = true
            · right
              rw [if_pos ((bt_t Q (by omega)).1.mpr hb)] at E
              rcases ET_read hW he hp8 hk with ⟨z1, z2, z3⟩ | ⟨j, j1, j2, v3, v4, v5, v6, v7⟩
              · rw [if_pos z2] at E
                have hor : Q ||| 0 = Q := by
                  refine b_ext (fun x _ => ?_)
                  rw [b_or, b_0, Bool.or_false]
                rw [hor] at E
                refine ⟨(Q, nI (p + 1)), E, rfl, qs, qm, fun p' j hp' hE hbe => ?_⟩
                by_cases z : p' = p
                · rw [z] at hE; exact absurd hE (z3 j)
                · exact qp p' j (by omega) hE hbe
              · rw [if_neg v5, v6] at E
                refine ⟨(Q ||| ((1 : Int32) <<< (nI j &&& 31)), nI (p + 1)), E, rfl, fun x hx hbx => ?_, fun x hx hbx => ?_, fun p' j' hp' hE hbe => ?_⟩
                · dsimp only at hbx
                  rw [bt_set Q (by omega) hx, Bool.or_eq_true, decide_eq_true_eq] at hbx
                  rcases hbx with hbx | rfl
                  · exact qs x hx hbx
                  · obtain ⟨_, n, hn⟩ := qs e (by omega) hb
                    exact ⟨j2, n + 1, e, ⟨p, v3⟩, hn⟩
                · dsimp only
                  rw [bt_set Q (by omega) hx, qm x hx hbx, Bool.true_or]
                · dsimp only
                  have hj' := hE.2.2.1
                  rw [bt_set Q (by omega) (by omega)]
                  by_cases z : p' = p
                  · rw [z] at hE
                    rw [v7 j' hE]; simp
                  · rw [qp p' j' (by omega) hE hbe, Bool.true_or]
            · left
              rw [if_neg (fun q => hb ((bt_t Q (by omega)).1.mp q))] at E
              exact ⟨Q, E, qs, qm, fun p' j hE hbe => absurd (qm e (by omega) hbe) hb⟩
          · left
            rw [if_neg hk] at E
            exact ⟨Q, E, qs, qm, fun p' j hE hbe => absurd hE.2.2.2.1 hk⟩)
        (by
          rintro ⟨Q, a2⟩ ⟨ha, qs, qm, qp⟩
          dsimp only at ha qs qm qp
          subst ha
          refine ⟨Q, ?_, qs, qm, fun p' j hE hbe => qp p' j hE.2.1 hE hbe⟩
          dsimp only
          unfold b_X3_isWithin_28
          rw [if_pos (show (8 : Int32) ≤ nI 8 from Int32.le_refl _)])
        8 0 300 (B, (0 : Int32)) rfl (by omega) ⟨rfl, hs, fun x _ h => h, fun p' j h => by omega⟩
      refine ⟨(B', nI (e + 1)), ?_, rfl, g2, fun x hx hb => g3 x hx (hm x hx hb), fun d p j hd hE hb => ?_⟩
      · dsimp only
        unfold b_X3_isWithin_18
        rw [if_neg hn12, g1, Option.bind_some, nI_1]
      · by_cases z : d = e
        · subst z
          exact g4 p j hE (hm d (by omega) hb)
        · exact g3 j (by have := hE.2.2.1; omega) (hp d p j (by omega) hE hb))
    (by
      rintro ⟨B, a2⟩ ⟨ha, hs, hm, hp⟩
      dsimp only at ha hs hm hp
      subst ha
      refine ⟨B, ?_, hs, hm, fun d p j hE hb => hp d p j hE.1 hE hb⟩
      dsimp only
      unfold b_X3_isWithin_18
      rw [if_pos (show (12 : Int32) ≤ nI 12 from Int32.le_refl _)])
    12 0 300 (B0, (0 : Int32)) rfl (by omega) ⟨rfl, hB, fun x _ h => h, fun d p j h => by omega⟩
  exact ⟨x, h1, hJ⟩
theorem cn_lt {Q Q' : Nat → Prop} [DecidablePred Q] [DecidablePred Q'] (hs : ∀ k, Q k → Q' k) {x : Nat} (h1 : ¬ Q x) (h2 : Q' x) : ∀ m, x < m → cn Q m < cn Q' m := by
  have mono : ∀ m, cn Q m ≤ cn Q' m := by
    intro m
    induction m with
    | zero => exact Nat.le_refl _
    | succ m ih =>
      unfold cn
      by_cases c : Q m
      · rw [if_pos c, if_pos (hs m c)]; omega
      · rw [if_neg c]; split <;> omega
  intro m
  induction m with
  | zero => intro h; omega
  | succ m ih =>
    intro h
    unfold cn
    by_cases e : x = m
    · subst e
      rw [if_neg h1, if_pos h2]
      have := mono x
      omega
    · have := ih (by omega)
      by_cases c : Q m
      · rw [if_pos c, if_pos (hs m c)]; omega
      · rw [if_neg c]; split <;> omega
/-- the reference: all passes -/
theorem pr_wr (r : RS) (hW : WI (R_kind r) (R_size r) (R_pl r) (R_rec r)) {t i : Nat} (ht : t < 12) (hi : i < 12) : (f_X3_isWithin (nI t) (nI i) r = some 1 ∧ ∃ n, UU r n t i) ∨ (f_X3_isWithin (nI t) (nI i) r = some 0 ∧ ∀ n, ¬ UU r n t i) := by
  have go : ∀ (M : Nat) (B : Int32) (f : Nat), 12 - cn (fun x => bt B x = true) 12 ≤ M → M + 2 < f → SB r i B → bt B i = true → ∃ B', itl (fun a : Int32 × Int32 => b_X3_isWithin_7 (nI t) r a.1 a.2) f (B, (1 : Int32)) = some B' ∧ SB r i B' ∧ bt B' i = true ∧ (∀ d p j, ET (R_kind r) (R_pl r) d p j → bt B' d = true → bt B' j = true) := by
    intro M
    induction M with
    | zero =>
      intro B f hM hf hS hb
      obtain ⟨B', e1, e2, e3, e4⟩ := pr_pass r hW (nI t) B hS
      obtain ⟨f, rfl⟩ : ∃ z, f = z + 1 + 1 := ⟨f - 2, by omega⟩
      have hle := cn_le (fun x => bt B x = true) 12
      have hall : ∀ x, x < 12 → bt B x = true := by
        intro x hx
        cases hq : bt B x with
        | true => rfl
        | false =>
          have := cn_lt (Q := fun x => bt B x = true) (Q' := fun _ => True) (fun _ _ => trivial) (x := x) (by rw [hq]; decide) trivial 12 hx
          have h12 := cn_le (fun _ : Nat => True) 12
          omega
      have heq : B' = B := by
        refine b_ext (fun x hx => ?_)
        cases hq : bt B' x with
        | true => exact (hall x (e2 x hx hq).1).symm
        | false =>
          cases hq2 : bt B x with
          | false => rfl
          | true => rw [e3 x hx hq2] at hq; cases hq
      subst heq
      refine ⟨B', ?_, hS, hb, e4⟩
      rw [itl_step (a' := (B', (0 : Int32)))]
      · refine itl_stop _ ?_
        dsimp only
        unfold b_X3_isWithin_7
        rw [if_pos rfl]
      · dsimp only
        unfold b_X3_isWithin_7
        rw [if_neg (show ¬ (1 : Int32) = 0 by decide), e1, Option.bind_some, if_pos rfl]
    | succ M ih =>
      intro B f hM hf hS hb
      obtain ⟨B', e1, e2, e3, e4⟩ := pr_pass r hW (nI t) B hS
      obtain ⟨f, rfl⟩ : ∃ z, f = z + 1 + 1 := ⟨f - 2, by omega⟩
      by_cases heq : B' = B
      · subst heq
        refine ⟨B', ?_, hS, hb, e4⟩
        rw [itl_step (a' := (B', (0 : Int32)))]
        · refine itl_stop _ ?_
          dsimp only
          unfold b_X3_isWithin_7
          rw [if_pos rfl]
        · dsimp only
          unfold b_X3_isWithin_7
          rw [if_neg (show ¬ (1 : Int32) = 0 by decide), e1, Option.bind_some, if_pos rfl]
      · have hx : ∃ x, x < 12 ∧ bt B x = false ∧ bt B' x = true := by
          refine Classical.byContradiction (fun hno => heq (b_ext (fun x hx => ?_)))
          cases hq : bt B' x with
          | false =>
            cases hq2 : bt B x with
            | false => rfl
            | true => rw [e3 x hx hq2] at hq; cases hq
          | true =>
            cases hq2 : bt B x with
            | true => rfl
            | false => exact absurd ⟨x, (e2 x hx hq).1, hq2, hq⟩ hno
        obtain ⟨x, x1, x2, x3⟩ := hx
        have hlt := cn_lt (Q := fun x => bt B x = true) (Q' := fun x => bt B' x = true) (fun k hk => by
          by_cases h32 : k < 32
          · exact e3 k h32 hk
          · rw [b_big (by omega)] at hk; cases hk) (x := x) (by rw [x2]; decide) x3 12 x1
        have hle := cn_le (fun x => bt B' x = true) 12
        obtain ⟨B2, k1, k2, k3, k4⟩ := ih B' (f + 1) (by omega) (by omega) e2 (e3 i (by omega) hb)
        refine ⟨B2, ?_, k2, k3, k4⟩
        rw [itl_step (a' := (B', (1 : Int32)))]
        · exact k1
        · dsimp only
          unfold b_X3_isWithin_7
          rw [if_neg (show ¬ (1 : Int32) = 0 by decide), e1, Option.bind_some, if_neg heq]
  have hb0 : bt ((1 : Int32) <<< (nI i &&& 31)) i = true := by rw [bt_s1 (by omega) (by omega)]; simp
  obtain ⟨B, k1, k2, k3, k4⟩ := go 12 ((1 : Int32) <<< (nI i &&& 31)) 300 (by omega) (by omega) (fun x hx hb => by
    rw [bt_s1 (by omega) hx, decide_eq_true_eq] at hb
    subst hb
    exact ⟨hi, 0, rfl⟩) hb0
  have hclosed : ∀ n x, UU r n x i → x < 12 → bt B x = true := by
    intro n
    induction n with
    | zero => intro x h _; have h : x = i := h; rw [h]; exact k3
    | succ n ih =>
      rintro x ⟨d, ⟨p, h1⟩, h2⟩ _
      exact k4 d p x h1 (ih d h2 h1.1)
  unfold f_X3_isWithin
  rw [k1, Option.bind_some]
  by_cases hb : bt B t = true
  · left
    rw [if_pos ((bt_t B (by omega)).1.mpr hb)]
    exact ⟨rfl, (k2 t (by omega) hb).2⟩
  · right
    rw [if_neg (fun q => hb ((bt_t B (by omega)).1.mp q))]
    exact ⟨rfl, fun n q => hb (hclosed n t q ht)⟩
