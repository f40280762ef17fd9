/-! each write keeps what holds of the words -/
theorem US_S {K S S' : NF} (h : ∀ a, K a = 2 → S' a = S a) {a p : Nat} : US K S' a p ↔ US K S a p := by
  unfold US
  constructor
  · rintro ⟨h1, h2, h3, h4⟩
    exact ⟨h1, h2, h3, by rw [← h a h3]; exact h4⟩
  · rintro ⟨h1, h2, h3, h4⟩
    exact ⟨h1, h2, h3, by rw [h a h3]; exact h4⟩
theorem RK_0 {K S P C : NF} (h : C 0 = 0) : RK K S P C := Or.inl h
/-- a size of what is no file -/
theorem WI_S0 {K S P C : NF} (h : WI K S P C) {i n : Nat} (hk : ¬ K i = 2) (hn : n ≤ 8) (hc : C 0 = 0) : WI K (upd S i (nI n)) P C := by
  obtain ⟨k1, k2, s1, e1, u1, u2, rk⟩ := h
  have hU : ∀ {a p : Nat}, US K (upd S i (nI n)) a p ↔ US K S a p := US_S (fun a ha => pk_un (fun (e : a = i) => hk (e ▸ ha)))
  refine ⟨k1, k2, fun a ha => ?_, e1, fun a p hu => u1 a p (hU.mp hu), fun a p b q h1 h2 => u2 a p b q (hU.mp h1) (hU.mp h2), RK_0 hc⟩
  by_cases e : a = i
  · exact ⟨n, hn, by rw [e, pk_us]⟩
  · obtain ⟨m, h1, h2⟩ := s1 a ha
    exact ⟨m, h1, by rw [pk_un e]; exact h2⟩
/-- a place that is no block of a file -/
theorem WI_P {K S P C : NF} (h : WI K S P C) {i q : Nat} {v : Int32} (hq : q < 8) (hu : ¬ US K S i q) (he : K i = 1 → EN v) (hc : C 0 = 0) : WI K S (upd P (8 * i + q) v) C := by
  obtain ⟨k1, k2, s1, e1, u1, u2, rk⟩ := h
  have hP : ∀ a p, US K S a p → upd P (8 * i + q) v (8 * a + p) = P (8 * a + p) := fun a p h => pk_un (fun e => hu (by
    have h2 := h.2.1
    have : a = i := by omega
    have : p = q := by omega
    subst a; subst p; exact h))
  refine ⟨k1, k2, s1, fun a p ha hp hk => ?_, fun a p h => ?_, fun a p b q' h1 h2 h3 => ?_, RK_0 hc⟩
  · by_cases e : 8 * a + p = 8 * i + q
    · have : a = i := by omega
      subst this
      rw [e, pk_us]
      exact he hk
    · rw [pk_un e]; exact e1 a p ha hp hk
  · rw [hP a p h]; exact u1 a p h
  · rw [hP a p h1, hP b q' h2] at h3
    exact u2 a p b q' h1 h2 h3
/-- a kind that goes -/
theorem WI_K0 {K S P C : NF} (h : WI K S P C) {i : Nat} (hi : 1 ≤ i) (hc : C 0 = 0) : WI (upd K i 0) S P C := by
  obtain ⟨k1, k2, s1, e1, u1, u2, rk⟩ := h
  have hU : ∀ {a p : Nat}, US (upd K i 0) S a p → US K S a p := by
    rintro a p ⟨h1, h2, h3, h4⟩
    refine ⟨h1, h2, ?_, h4⟩
    by_cases e : a = i
    · rw [e, pk_us] at h3; exact absurd h3 (by decide)
    · rw [pk_un e] at h3; exact h3
  refine ⟨fun a ha => ?_, ?_, s1, fun a p ha hp hk => ?_, fun a p h => u1 a p (hU h), fun a p b q h1 h2 => u2 a p b q (hU h1) (hU h2), RK_0 hc⟩
  · by_cases e : a = i
    · left; rw [e, pk_us]
    · rw [pk_un e]; exact k1 a ha
  · rw [pk_un (by omega)]; exact k2
  · by_cases e : a = i
    · rw [e, pk_us] at hk; exact absurd hk (by decide)
    · rw [pk_un e] at hk; exact e1 a p ha hp hk
/-- a kind that comes: all places 0, the size 0 -/
theorem WI_K1 {K S P C : NF} (h : WI K S P C) {i : Nat} {v : Int32} (hi : 1 ≤ i) (hv : v = 1 ∨ v = 2) (hp : ∀ p, p < 8 → P (8 * i + p) = 0) (hs : S i = 0) (hc : C 0 = 0) : WI (upd K i v) S P C := by
  obtain ⟨k1, k2, s1, e1, u1, u2, rk⟩ := h
  have hU : ∀ {a p : Nat}, US (upd K i v) S a p → US K S a p := by
    rintro a p ⟨h1, h2, h3, h4⟩
    refine ⟨h1, h2, ?_, h4⟩
    by_cases e : a = i
    · rw [e, hs] at h4
      exact absurd h4 (nI_pos (by omega))
    · rw [pk_un e] at h3; exact h3
  refine ⟨fun a ha => ?_, ?_, s1, fun a p ha hp' hk => ?_, fun a p h => u1 a p (hU h), fun a p b q h1 h2 => u2 a p b q (hU h1) (hU h2), RK_0 hc⟩
  · by_cases e : a = i
    · right; rw [e, pk_us]; exact hv
    · rw [pk_un e]; exact k1 a ha
  · rw [pk_un (by omega)]; exact k2
  · by_cases e : a = i
    · rw [e, hp p hp']; exact Or.inl rfl
    · rw [pk_un e] at hk; exact e1 a p ha hp' hk
/-- one more block of a file -/
theorem WI_S1 {K S P C : NF} (h : WI K S P C) {i n b : Nat} (hn : n < 8) (hs : S i = nI n) (hb : b < 40) (hP : P (8 * i + n) = nI b) (hf : ∀ a p, US K S a p → ¬ P (8 * a + p) = nI b) (hc : C 0 = 0) : WI K (upd S i (nI (n + 1))) P C := by
  obtain ⟨k1, k2, s1, e1, u1, u2, rk⟩ := h
  have hU : ∀ {a p : Nat}, US K (upd S i (nI (n + 1))) a p → US K S a p ∨ (a = i ∧ p = n) := by
    rintro a p ⟨h1, h2, h3, h4⟩
    by_cases e : a = i
    · rw [e, pk_us] at h4
      have h5 := (nI_ltI (by omega) (by omega)).mp h4
      by_cases e2 : p = n
      · exact Or.inr ⟨e, e2⟩
      · left
        refine ⟨h1, h2, h3, ?_⟩
        rw [e, hs]
        exact nI_lt (by omega) (by omega)
    · rw [pk_un e] at h4
      exact Or.inl ⟨h1, h2, h3, h4⟩
  refine ⟨k1, k2, fun a ha => ?_, e1, fun a p h => ?_, fun a p c q h1 h2 h3 => ?_, RK_0 hc⟩
  · by_cases e : a = i
    · exact ⟨n + 1, by omega, by rw [e, pk_us]⟩
    · obtain ⟨m, g1, g2⟩ := s1 a ha
      exact ⟨m, g1, by rw [pk_un e]; exact g2⟩
  · rcases hU h with g | ⟨rfl, rfl⟩
    · exact u1 a p g
    · exact ⟨b, hb, hP⟩
  · rcases hU h1 with g1 | ⟨rfl, rfl⟩ <;> rcases hU h2 with g2 | ⟨rfl, rfl⟩
    · exact u2 a p c q g1 g2 h3
    · exact absurd (h3.trans hP) (hf a p g1)
    · exact absurd (h3.symm.trans hP) (hf c q g2)
    · exact ⟨rfl, rfl⟩
/-- words of THE RECORD while it says nothing -/
theorem WI_R0 {K S P C : NF} (h : WI K S P C) {k : Nat} {v : Int32} (hk : k ≠ 0) (hc : C 0 = 0) : WI K S P (upd C k v) := by
  obtain ⟨k1, k2, s1, e1, u1, u2, rk⟩ := h
  exact ⟨k1, k2, s1, e1, u1, u2, RK_0 (by rw [pk_un (by omega)]; exact hc)⟩
theorem WI_R1 {K S P C : NF} (h : WI K S P C) : WI K S P (upd C 0 0) := by
  obtain ⟨k1, k2, s1, e1, u1, u2, rk⟩ := h
  exact ⟨k1, k2, s1, e1, u1, u2, RK_0 pk_us⟩
theorem WI_R2 {K S P C : NF} (h : WI K S P C) {v : Int32} (hv : v = 1 ∨ v = 2) {i p t : Nat} (hu : US K S i p) (ht : t < 40) (c1 : C 1 = nI i) (c2 : C 2 = nI p) (c3 : C 3 = nI t) (hf : ∀ j q, US K S j q → P (8 * j + q) = nI t → j = i ∧ q = p) : WI K S P (upd C 0 v) := by
  obtain ⟨k1, k2, s1, e1, u1, u2, rk⟩ := h
  refine ⟨k1, k2, s1, e1, u1, u2, Or.inr ⟨?_, i, p, t, hu, ht, ?_, ?_, ?_, hf⟩⟩
  · rw [pk_us]; exact hv
  · rw [pk_un (by omega)]; exact c1
  · rw [pk_un (by omega)]; exact c2
  · rw [pk_un (by omega)]; exact c3
/-- a block of a file moves -/
theorem WI_M {K S P C : NF} (h : WI K S P C) {i p t : Nat} (hu : US K S i p) (ht : t < 40) (c0 : C 0 = 0 ∨ C 0 = 1 ∨ C 0 = 2) (c1 : C 1 = nI i) (c2 : C 2 = nI p) (c3 : C 3 = nI t) (hf : ∀ j q, US K S j q → P (8 * j + q) = nI t → j = i ∧ q = p) : WI K S (upd P (8 * i + p) (nI t)) C ∧ (∀ j q, US K S j q → upd P (8 * i + p) (nI t) (8 * j + q) = nI t → j = i ∧ q = p) := by
  obtain ⟨k1, k2, s1, e1, u1, u2, rk⟩ := h
  have hi : ∀ a q, q < 8 → 8 * a + q = 8 * i + p → a = i ∧ q = p := fun a q h1 h2 => by
    have := hu.2.1
    omega
  have hf2 : ∀ j q, US K S j q → upd P (8 * i + p) (nI t) (8 * j + q) = nI t → j = i ∧ q = p := by
    intro j q h1 h2
    by_cases e : 8 * j + q = 8 * i + p
    · exact hi j q h1.2.1 e
    · rw [pk_un e] at h2
      exact hf j q h1 h2
  refine ⟨⟨k1, k2, s1, fun a q ha hq hk => ?_, fun a q h => ?_, fun a q b q' h1 h2 h3 => ?_, ?_⟩, hf2⟩
  · have : 8 * a + q ≠ 8 * i + p := fun e => by
      have := (hi a q hq e).1
      subst this
      rw [hu.2.2.1] at hk
      exact absurd hk (by decide)
    rw [pk_un this]; exact e1 a q ha hq hk
  · by_cases e : 8 * a + q = 8 * i + p
    · exact ⟨t, ht, by rw [e, pk_us]⟩
    · rw [pk_un e]; exact u1 a q h
  · by_cases e : 8 * a + q = 8 * i + p
    · rw [e, pk_us] at h3
      obtain ⟨a1, a2⟩ := hf2 b q' h2 h3.symm
      obtain ⟨b1, b2⟩ := hi a q h1.2.1 e
      exact ⟨b1.trans a1.symm, b2.trans a2.symm⟩
    · by_cases e' : 8 * b + q' = 8 * i + p
      · rw [e', pk_us] at h3
        obtain ⟨a1, a2⟩ := hf2 a q h1 h3
        obtain ⟨b1, b2⟩ := hi b q' h2.2.1 e'
        exact ⟨a1.trans b1.symm, a2.trans b2.symm⟩
      · rw [pk_un e, pk_un e'] at h3
        exact u2 a q b q' h1 h2 h3
  · rcases c0 with c0 | c0 | c0
    · exact RK_0 c0
    · exact Or.inr ⟨Or.inl c0, i, p, t, hu, ht, c1, c2, c3, hf2⟩
    · exact Or.inr ⟨Or.inr c0, i, p, t, hu, ht, c1, c2, c3, hf2⟩
