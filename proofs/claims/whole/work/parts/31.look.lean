/-! the next move -/
def SC (c c' : CS) : Prop := C_ws c' = C_ws c ∧ C_left c' = C_left c ∧ C_wr c' = C_wr c ∧ C_mv c' = C_mv c ∧ C_asked c' = C_asked c ∧ C_down c' = C_down c
def SR (r r' : RS) : Prop := R_kind r' = R_kind r ∧ R_size r' = R_size r ∧ R_pl r' = R_pl r ∧ R_ws r' = R_ws r ∧ R_rec r' = R_rec r ∧ R_down r' = R_down r ∧ R_left r' = R_left r ∧ R_wr r' = R_wr r ∧ R_mv r' = R_mv r ∧ R_lat r' = R_lat r
theorem SC_r (c : CS) : SC c c := ⟨rfl, rfl, rfl, rfl, rfl, rfl⟩
theorem SR_r (r : RS) : SR r r := ⟨rfl, rfl, rfl, rfl, rfl, rfl, rfl, rfl, rfl, rfl⟩
/-- the move found, on both sides -/
def MV (r : RS) (c' : CS) (r' : RS) : Prop := ∃ i p t, US (R_kind r) (R_size r) i p ∧ t < 40 ∧ (∀ j q, US (R_kind r) (R_size r) j q → ¬ R_pl r (8 * j + q) = nI t) ∧ C_pi c' = nI i ∧ C_pp c' = nI p ∧ C_pt c' = nI t ∧ R_pi r' = nI i ∧ R_pp r' = nI p ∧ R_pt r' = nI t ∧ R_pf r' = R_pl r (8 * i + p)
def RE (c : CS) (r : RS) (x : Int32 × CS) (x' : Int32 × RS) : Prop := SC c x.2 ∧ SR r x'.2 ∧ ((x.1 = -5 ∧ x'.1 = -5) ∨ (x.1 = 1 ∧ x'.1 = 1 ∧ MV r x.2 x'.2))
theorem pr_ca {c : CS} {r : RS} (hR : RW c r) (hW : WI (R_kind r) (R_size r) (R_pl r) (R_rec r)) {i0 p0 g : Nat} (t : Int32) (hu : US (R_kind r) (R_size r) i0 p0) (hp : R_pl r (8 * i0 + p0) = nI g) (hf : ∀ j q, US (R_kind r) (R_size r) j q → R_pl r (8 * j + q) = nI g → j = i0 ∧ q = p0) :
    f_X2_chooseMoveAway (nI g) t c = some (1, f_X1_set (nI i0) (nI p0) t c) := by
  have hi0 := hu.1
  have inner : ∀ i m p, i < 12 → m ≤ 8 → p < m → US (R_kind r) (R_size r) i p → b_X2_chooseMoveAway_18 (nI g) t (nI i) (nI m) (nI p) c = if i = i0 ∧ p = p0 then some (.inl (.inl (1, f_X1_set (nI i0) (nI p0) t c))) else some (.inr (nI (p + 1), c)) := by
    intro i m p hi hm hpm hup
    unfold b_X2_chooseMoveAway_18
    rw [if_neg (m_nle hpm (by omega)), rd_p hR hi (by omega), nI_1]
    by_cases e : i = i0 ∧ p = p0
    · obtain ⟨rfl, rfl⟩ := e
      rw [if_pos hp, if_pos ⟨rfl, rfl⟩]
    · rw [if_neg (fun q => e (hf i p hup q)), if_neg e]
  obtain ⟨x, e1, rfl⟩ := itl_ix (b := fun a : Int32 × CS => b_X2_chooseMoveAway_2 (nI g) t a.1 a.2) (fun k a => a = (nI k, c)) (fun x => x = .inl (1, f_X1_set (nI i0) (nI p0) t c)) i0 (by
      rintro i a hi rfl
      right
      have hi12 : i < 12 := by omega
      obtain ⟨m, hm, hum, q1, q2⟩ := us_m hW hi12
      obtain ⟨x, g1, rfl⟩ := itl_ix (b := fun a : Int32 × CS => b_X2_chooseMoveAway_18 (nI g) t (nI i) (nI m) a.1 a.2) (fun k a => a = (nI k, c)) (fun x => x = .inr c) m (by
          rintro p a hpm rfl
          right
          refine ⟨(nI (p + 1), c), ?_, rfl⟩
          dsimp only
          rw [inner i m p hi12 hm hpm ((hum p).mpr hpm), if_neg (by omega)])
        (by
          rintro a rfl
          refine ⟨.inr c, ?_, rfl⟩
          dsimp only
          unfold b_X2_chooseMoveAway_18
          rw [if_pos (Int32.le_refl _)])
        m 0 300 (0, c) (by omega) (by omega) rfl
      refine ⟨(nI (i + 1), c), ?_, rfl⟩
      dsimp only
      unfold b_X2_chooseMoveAway_2
      rw [if_neg (show ¬ (12 : Int32) ≤ nI i from m_nle (N := 12) hi12 (by omega)), rd_b hR hi12 q1 q2, g1, Option.bind_some, nI_1]
      rfl)
    (by
      rintro a rfl
      obtain ⟨m, hm, hum, q1, q2⟩ := us_m hW hi0
      have hpm := (hum p0).mp hu
      obtain ⟨x, g1, rfl⟩ := itl_ix (b := fun a : Int32 × CS => b_X2_chooseMoveAway_18 (nI g) t (nI i0) (nI m) a.1 a.2) (fun k a => a = (nI k, c)) (fun x => x = .inl (1, f_X1_set (nI i0) (nI p0) t c)) p0 (by
          rintro p a hpp rfl
          right
          refine ⟨(nI (p + 1), c), ?_, rfl⟩
          dsimp only
          rw [inner i0 m p hi0 hm (by omega) ((hum p).mpr (by omega)), if_neg (by omega)])
        (by
          rintro a rfl
          refine ⟨.inl (1, f_X1_set (nI i0) (nI p0) t c), ?_, rfl⟩
          dsimp only
          rw [inner i0 m p0 hi0 hm hpm hu, if_pos ⟨rfl, rfl⟩])
        p0 0 300 (0, c) (by omega) (by omega) rfl
      refine ⟨.inl (1, f_X1_set (nI i0) (nI p0) t c), ?_, rfl⟩
      dsimp only
      unfold b_X2_chooseMoveAway_2
      rw [if_neg (show ¬ (12 : Int32) ≤ nI i0 from m_nle (N := 12) hi0 (by omega)), rd_b hR hi0 q1 q2, g1, Option.bind_some]
      rfl)
    i0 0 300 (0, c) (by omega) (by omega) rfl
  unfold f_X2_chooseMoveAway
  rw [e1, Option.bind_some]
  rfl
/-- a counter that goes down -/
def dI (N k : Nat) : Int32 := if k < N then nI (N - 1 - k) else -1
theorem dI_in {N k : Nat} (h : k < N) : dI N k = nI (N - 1 - k) := by unfold dI; rw [if_pos h]
theorem dI_end (N : Nat) : dI N N = -1 := by unfold dI; rw [if_neg (by omega)]
theorem dI_s {N k : Nat} (h : k < N) : dI N k + (-1) = dI N (k + 1) := by
  unfold dI
  rw [if_pos h]
  by_cases e : k + 1 < N
  · rw [if_pos e]
    obtain ⟨j, hj⟩ : ∃ j, N - 1 - k = j + 1 := ⟨N - 2 - k, by omega⟩
    rw [hj, pk_m1]
    congr 1; omega
  · rw [if_neg e, show N - 1 - k = 0 by omega]; rfl
theorem pr_la {r st : RS} (hW : WI (R_kind r) (R_size r) (R_pl r) (R_rec r)) (h1 : R_kind st = R_kind r) (h2 : R_size st = R_size r) (h3 : R_pl st = R_pl r) {i0 p0 g : Nat} (hu : US (R_kind r) (R_size r) i0 p0) (hp : R_pl r (8 * i0 + p0) = nI g) (hf : ∀ j q, US (R_kind r) (R_size r) j q → R_pl r (8 * j + q) = nI g → j = i0 ∧ q = p0) :
    itl (fun a : Int32 × RS => b_X3_lookAt_35 (nI g) a.1 a.2) 300 ((11 : Int32), st) = some (sR_pp (nI p0) (sR_pi (nI i0) st)) := by
  have inner : ∀ (s : RS) (j q : Nat), R_kind s = R_kind r → R_size s = R_size r → R_pl s = R_pl r → j < 12 → q < 8 → b_X3_lookAt_44 (nI g) (nI j) (nI q) s = some (.inr (nI q + (-1), if j = i0 ∧ q = p0 then sR_pp (nI q) (sR_pi (nI j) s) else s)) := by
    intro s j q s1 s2 s3 hj hq
    unfold b_X3_lookAt_44
    rw [if_neg (nI_pos (show q < 2 ^ 31 by omega)), m_chk hj (by omega), m_cl (show j < 2 ^ 31 by omega), s1, s2, s3]
    by_cases hk : R_kind r j = 2
    · rw [if_pos hk, m_chk hj (by omega)]
      obtain ⟨n, hn, hs⟩ := hW.2.2.1 j hj
      rw [hs]
      by_cases hq2 : n ≤ q
      · rw [if_pos (nI_le hq2 (by omega))]
        have : ¬ (j = i0 ∧ q = p0) := by
          rintro ⟨rfl, rfl⟩
          have := hu.2.2.2
          rw [hs] at this
          exact nI_nlt hq2 (by omega) this
        rw [if_neg this]
      · have hu' : US (R_kind r) (R_size r) j q := ⟨hj, hq, hk, by rw [hs]; exact nI_lt (by omega) (by omega)⟩
        rw [if_neg (m_nle (by omega) (by omega)), m_ix8, m_chk (show 8 * j + q < 96 by omega) (by omega), m_cl (by omega)]
        by_cases e : j = i0 ∧ q = p0
        · have e2 := e
          obtain ⟨rfl, rfl⟩ := e
          rw [if_pos hp, if_pos e2]
        · rw [if_neg (fun z => e (hf j q hu' z)), if_neg e]
    · rw [if_neg hk]
      have : ¬ (j = i0 ∧ q = p0) := by
        rintro ⟨rfl, rfl⟩
        exact hk hu.2.2.1
      rw [if_neg this]
  have hin : ∀ (s : RS) (j : Nat), R_kind s = R_kind r → R_size s = R_size r → R_pl s = R_pl r → j < 12 → itl (fun a : Int32 × RS => b_X3_lookAt_44 (nI g) (nI j) a.1 a.2) 300 ((7 : Int32), s) = some (if j = i0 then sR_pp (nI p0) (sR_pi (nI i0) s) else s) := by
    intro s j s1 s2 s3 hj
    have hstep := itl_run (b := fun a : Int32 × RS => b_X3_lookAt_44 (nI g) (nI j) a.1 a.2) (fun k => (dI 8 k, if j = i0 ∧ 8 - k ≤ p0 then sR_pp (nI p0) (sR_pi (nI i0) s) else s)) (if j = i0 then sR_pp (nI p0) (sR_pi (nI i0) s) else s) 8 (by
        intro k hk
        dsimp only
        rw [dI_in hk]
        have e1 : R_kind (if j = i0 ∧ 8 - k ≤ p0 then sR_pp (nI p0) (sR_pi (nI i0) s) else s) = R_kind r := by split <;> exact s1
        have e2 : R_size (if j = i0 ∧ 8 - k ≤ p0 then sR_pp (nI p0) (sR_pi (nI i0) s) else s) = R_size r := by split <;> exact s2
        have e3 : R_pl (if j = i0 ∧ 8 - k ≤ p0 then sR_pp (nI p0) (sR_pi (nI i0) s) else s) = R_pl r := by split <;> exact s3
        rw [inner _ j (8 - 1 - k) e1 e2 e3 hj (by omega), ← dI_in hk, dI_s hk]
        congr 3
        by_cases a1 : j = i0 ∧ 8 - 1 - k = p0
        · obtain ⟨rfl, hb⟩ := a1
          rw [if_pos ⟨rfl, hb⟩, if_neg (by omega), if_pos (by omega), dI_in hk, hb]
        · rw [if_neg a1]
          by_cases a2 : j = i0 ∧ 8 - k ≤ p0
          · rw [if_pos a2, if_pos (by omega)]
          · rw [if_neg a2, if_neg (by omega)])
      (by
        dsimp only
        rw [dI_end]
        unfold b_X3_lookAt_44
        rw [if_pos (show (-1 : Int32) < 0 by decide)]
        congr 2
        by_cases a : j = i0
        · rw [if_pos a, if_pos ⟨a, by omega⟩]
        · rw [if_neg a, if_neg (fun z => a z.1)]) 8 0 300 rfl (by omega)
    have hs0 : (dI 8 0, if j = i0 ∧ 8 - 0 ≤ p0 then sR_pp (nI p0) (sR_pi (nI i0) s) else s) = ((7 : Int32), s) := by
      have := hu.2.1
      rw [if_neg (by omega)]
      rfl
    rw [hs0] at hstep
    exact hstep
  have hout := itl_run (b := fun a : Int32 × RS => b_X3_lookAt_35 (nI g) a.1 a.2) (fun k => (dI 12 k, if 12 - k ≤ i0 then sR_pp (nI p0) (sR_pi (nI i0) st) else st)) (sR_pp (nI p0) (sR_pi (nI i0) st)) 12 (by
      intro k hk
      dsimp only
      unfold b_X3_lookAt_35
      rw [dI_in hk, if_neg (nI_pos (show 12 - 1 - k < 2 ^ 31 by omega))]
      have e1 : R_kind (if 12 - k ≤ i0 then sR_pp (nI p0) (sR_pi (nI i0) st) else st) = R_kind r := by split <;> exact h1
      have e2 : R_size (if 12 - k ≤ i0 then sR_pp (nI p0) (sR_pi (nI i0) st) else st) = R_size r := by split <;> exact h2
      have e3 : R_pl (if 12 - k ≤ i0 then sR_pp (nI p0) (sR_pi (nI i0) st) else st) = R_pl r := by split <;> exact h3
      rw [hin _ (12 - 1 - k) e1 e2 e3 (by omega), Option.bind_some, ← dI_in hk, dI_s hk]
      congr 3
      by_cases a1 : 12 - 1 - k = i0
      · rw [if_pos a1, if_neg (by omega), if_pos (by omega)]
      · rw [if_neg a1]
        by_cases a2 : 12 - k ≤ i0
        · rw [if_pos a2, if_pos (by omega)]
        · rw [if_neg a2, if_neg (by omega)])
    (by
      dsimp only
      unfold b_X3_lookAt_35
      rw [dI_end, if_pos (show (-1 : Int32) < 0 by decide), if_pos (by omega)]) 12 0 300 rfl (by omega)
  have hs0 : (dI 12 0, if 12 - 0 ≤ i0 then sR_pp (nI p0) (sR_pi (nI i0) st) else st) = ((11 : Int32), st) := by
    have := hu.1
    rw [if_neg (by omega)]
    rfl
  rw [hs0] at hout
  exact hout
