/-! numbers, checks, and loops as searches and runs -/
theorem m_ix8 (i p : Nat) : (8 : Int32) * nI i + nI p = nI (8 * i + p) := by
  rw [show (8 : Int32) = nI 8 from rfl, pk_mul, nI_add]
theorem m_ix3 (i p : Nat) : (3 : Int32) * nI i + nI p = nI (3 * i + p) := by
  rw [show (3 : Int32) = nI 3 from rfl, pk_mul, nI_add]
theorem m_ix10 (i w : Nat) : nI i * (10 : Int32) + nI w = nI (10 * i + w) := by
  rw [show (10 : Int32) = nI 10 from rfl, pk_mul, nI_add, Nat.mul_comm]
theorem m_chk {α : Type} {n N : Nat} (h : n < N) (hN : N < 2 ^ 31) (k : Option α) : chk (nI n) N k = k := by
  unfold chk
  rw [if_pos]
  exact ⟨nI_pos' (Nat.lt_trans h hN), by rw [nI_clamp (Nat.lt_trans h hN)]; exact h⟩
theorem m_cl {n : Nat} (h : n < 2 ^ 31) : (nI n).toNatClampNeg = n := nI_clamp h
theorem m_ile {a b : Nat} (ha : a < 2 ^ 31) (hb : b < 2 ^ 31) : nI a ≤ nI b ↔ a ≤ b := nI_leI ha hb
theorem m_inj {a b : Nat} (ha : a < 2 ^ 31) (hb : b < 2 ^ 31) (h : nI a = nI b) : a = b := (nI_eq ha hb).mp h
/-- what an int is: below 0, at least N, or one of 0 .. N-1 -/
theorem m_cases (x : Int32) (N : Nat) (hN : N < 2 ^ 31) : x < 0 ∨ nI N ≤ x ∨ ∃ j, j < N ∧ x = nI j := pk_ix x hN
theorem m_lt0 {n : Nat} (h : n < 2 ^ 31) : ¬ nI n < 0 := nI_pos h
/-- in(x, a, b) of the reference -/
theorem m_in (x : Int32) (a b : Nat) (ha : a < 2 ^ 31) (hb : b < 2 ^ 31) : f_X3_in x.toInt64 (lN a) (lN b) = if nI a ≤ x ∧ x ≤ nI b then 1 else 0 := by
  unfold f_X3_in lg_cmp
  have e1 : lN a = (nI a).toInt64 := (nI_l ha).symm
  have e2 : lN b = (nI b).toInt64 := (nI_l hb).symm
  rw [e1, e2]
  have h1 : ((nI a).toInt64 < x.toInt64) ↔ nI a < x := Int32.toInt64_lt
  have h2 : ((nI b).toInt64 < x.toInt64) ↔ nI b < x := Int32.toInt64_lt
  have h3 : (x.toInt64 = (nI a).toInt64) ↔ x = nI a := ⟨fun h => by have := congrArg Int64.toInt32 h; simpa using this, fun h => by rw [h]⟩
  have h4 : (x.toInt64 = (nI b).toInt64) ↔ x = nI b := ⟨fun h => by have := congrArg Int64.toInt32 h; simpa using this, fun h => by rw [h]⟩
  simp only [gt_iff_lt, h1, h2, h3, h4]
  by_cases c1 : nI a < x
  · have d1 : nI a ≤ x := Int32.le_of_lt c1
    by_cases c2 : nI b < x
    · have d2 : ¬ x ≤ nI b := Int32.not_le.mpr c2
      simp [c1, c2, d2]
    · have d2 : x ≤ nI b := Int32.not_lt.mp c2
      by_cases c3 : x = nI b
      · subst c3
        simp [c1, d1]
      · simp [c1, c2, c3, d1, d2]
  · by_cases c3 : x = nI a
    · subst c3
      by_cases c2 : nI b < nI a
      · have d2 : ¬ nI a ≤ nI b := Int32.not_le.mpr c2
        simp [c2, d2]
      · have d2 : nI a ≤ nI b := Int32.not_lt.mp c2
        by_cases c4 : nI a = nI b
        · rw [c4]; simp
        · simp [c2, c4, d2]
    · have d1 : ¬ nI a ≤ x := fun h => (Int32.lt_or_eq_of_le h).elim c1 (fun e => c3 e.symm)
      simp [c1, c3, d1]
/-- the first k in m places from k0 on that has Q -/
def fn (Q : Nat → Prop) [DecidablePred Q] : Nat → Nat → Option Nat
  | _, 0 => none
  | k, m + 1 => if Q k then some k else fn Q (k + 1) m
theorem fn_some {Q : Nat → Prop} [DecidablePred Q] : ∀ (m k j : Nat), fn Q k m = some j → k ≤ j ∧ j < k + m ∧ Q j ∧ ∀ i, k ≤ i → i < j → ¬ Q i
  | 0, k, j, h => by cases h
  | m + 1, k, j, h => by
    unfold fn at h
    by_cases c : Q k
    · rw [if_pos c] at h
      cases h
      exact ⟨Nat.le_refl _, by omega, c, fun i h1 h2 => by omega⟩
    · rw [if_neg c] at h
      obtain ⟨h1, h2, h3, h4⟩ := fn_some m (k + 1) j h
      refine ⟨by omega, by omega, h3, fun i a b => ?_⟩
      by_cases e : i = k
      · rw [e]; exact c
      · exact h4 i (by omega) b
theorem fn_none {Q : Nat → Prop} [DecidablePred Q] : ∀ (m k : Nat), fn Q k m = none → ∀ i, k ≤ i → i < k + m → ¬ Q i
  | 0, k, h => fun i h1 h2 => by omega
  | m + 1, k, h => by
    unfold fn at h
    by_cases c : Q k
    · rw [if_pos c] at h; cases h
    · rw [if_neg c] at h
      intro i h1 h2
      by_cases e : i = k
      · rw [e]; exact c
      · exact fn_none m (k + 1) h i (by omega) (by omega)
theorem fn_congr {Q Q' : Nat → Prop} [DecidablePred Q] [DecidablePred Q'] : ∀ (m k : Nat), (∀ i, k ≤ i → i < k + m → (Q i ↔ Q' i)) → fn Q k m = fn Q' k m
  | 0, k, h => rfl
  | m + 1, k, h => by
    unfold fn
    have e := h k (Nat.le_refl _) (by omega)
    rw [fn_congr m (k + 1) (fun i a b => h i (by omega) (by omega))]
    by_cases c : Q k
    · rw [if_pos c, if_pos (e.mp c)]
    · rw [if_neg c, if_neg (fun d => c (e.mpr d))]
/-- a loop that looks for the first place with Q -/
theorem itl_fn {α β : Type} {b : α → Option (β ⊕ α)} (Q : Nat → Prop) [DecidablePred Q] (st : Nat → α) (x : Nat → β) (e : β) (N : Nat)
    (hs : ∀ k, k < N → b (st k) = if Q k then some (.inl (x k)) else some (.inr (st (k + 1)))) (he : b (st N) = some (.inl e)) :
    ∀ (m k n : Nat), k + m = N → m < n → itl b n (st k) = some (match fn Q k m with | some j => x j | none => e) := by
  intro m
  induction m with
  | zero =>
    intro k n hk hn
    obtain ⟨n, rfl⟩ : ∃ n', n = n' + 1 := ⟨n - 1, by omega⟩
    have : k = N := by omega
    subst this
    simp only [itl, he, Option.bind_some, fn]
  | succ m ih =>
    intro k n hk hn
    obtain ⟨n, rfl⟩ : ∃ n', n = n' + 1 := ⟨n - 1, by omega⟩
    have h1 := hs k (by omega)
    by_cases c : Q k
    · rw [if_pos c] at h1
      simp only [itl, h1, Option.bind_some, fn, if_pos c]
    · rw [if_neg c] at h1
      have h2 := ih (k + 1) n (by omega) (by omega)
      simp only [itl, h1, Option.bind_some, fn, if_neg c]
      exact h2
/-- a loop that runs to its end -/
theorem itl_run {α β : Type} {b : α → Option (β ⊕ α)} (st : Nat → α) (e : β) (N : Nat)
    (hs : ∀ k, k < N → b (st k) = some (.inr (st (k + 1)))) (he : b (st N) = some (.inl e)) :
    ∀ (m k n : Nat), k + m = N → m < n → itl b n (st k) = some e := by
  intro m
  induction m with
  | zero =>
    intro k n hk hn
    obtain ⟨n, rfl⟩ : ∃ n', n = n' + 1 := ⟨n - 1, by omega⟩
    have : k = N := by omega
    subst this
    simp only [itl, he, Option.bind_some]
  | succ m ih =>
    intro k n hk hn
    obtain ⟨n, rfl⟩ : ∃ n', n = n' + 1 := ⟨n - 1, by omega⟩
    simp only [itl, hs k (by omega), Option.bind_some]
    exact ih (k + 1) n (by omega) (by omega)
/-- two loops side by side: each keeps step with the other -/
theorem itl_two {α β α' β' : Type} {b : α → Option (β ⊕ α)} {b' : α' → Option (β' ⊕ α')} (I : Nat → α → α' → Prop) (J : β → β' → Prop) (N : Nat)
    (hs : ∀ k a a', k < N → I k a a' → (∃ x x', b a = some (.inl x) ∧ b' a' = some (.inl x') ∧ J x x') ∨ (∃ y y', b a = some (.inr y) ∧ b' a' = some (.inr y') ∧ I (k + 1) y y'))
    (he : ∀ a a', I N a a' → ∃ x x', b a = some (.inl x) ∧ b' a' = some (.inl x') ∧ J x x') :
    ∀ (m k n n' : Nat) (a : α) (a' : α'), k + m = N → m < n → m < n' → I k a a' → ∃ x x', itl b n a = some x ∧ itl b' n' a' = some x' ∧ J x x' := by
  intro m
  induction m with
  | zero =>
    intro k n n' a a' hk hn hn' hI
    obtain ⟨n, rfl⟩ : ∃ z, n = z + 1 := ⟨n - 1, by omega⟩
    obtain ⟨n', rfl⟩ : ∃ z, n' = z + 1 := ⟨n' - 1, by omega⟩
    have : k = N := by omega
    subst this
    obtain ⟨x, x', h1, h2, h3⟩ := he a a' hI
    exact ⟨x, x', by simp only [itl, h1, Option.bind_some], by simp only [itl, h2, Option.bind_some], h3⟩
  | succ m ih =>
    intro k n n' a a' hk hn hn' hI
    obtain ⟨n, rfl⟩ : ∃ z, n = z + 1 := ⟨n - 1, by omega⟩
    obtain ⟨n', rfl⟩ : ∃ z, n' = z + 1 := ⟨n' - 1, by omega⟩
    rcases hs k a a' (by omega) hI with ⟨x, x', h1, h2, h3⟩ | ⟨y, y', h1, h2, h3⟩
    · exact ⟨x, x', by simp only [itl, h1, Option.bind_some], by simp only [itl, h2, Option.bind_some], h3⟩
    · obtain ⟨x, x', g1, g2, g3⟩ := ih (k + 1) n n' y y' (by omega) (by omega) (by omega) h3
      exact ⟨x, x', by simp only [itl, h1, Option.bind_some]; exact g1, by simp only [itl, h2, Option.bind_some]; exact g2, g3⟩
