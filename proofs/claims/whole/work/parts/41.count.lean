/-! count -/
theorem c_used {c : CS} {r : RS} (hR : RW c r) (hW : WI (R_kind r) (R_size r) (R_pl r) (R_rec r)) : ∃ v, ((f_X2_usedBlocks c).bind (fun z => some (f_J13_bitCount_95d88 z))) = some v ∧ itl (fun a : Int32 × Int32 => b_X3_count_47 r a.1 a.2) 300 ((0 : Int32), (0 : Int32)) = some v := by
  obtain ⟨A, hA, hub, hbit⟩ := pr_ub hR hW
  refine ⟨_, by rw [hub, Option.bind_some, bc_ok hA], ?_⟩
  have h := itl_run (b := fun a : Int32 × Int32 => b_X3_count_47 r a.1 a.2) (fun k => (nI (cn (fun b => A.testBit b = true) k), nI k)) (nI (cn (fun b => A.testBit b = true) 40)) 40 (by
      intro k hk
      dsimp only
      unfold b_X3_count_47
      rw [if_neg (show ¬ (40 : Int32) ≤ nI k from m_nle (N := 40) hk (by omega)), nI_1]
      show _ = some (Sum.inr (nI (cn (fun b => A.testBit b = true) k + if A.testBit k = true then 1 else 0), nI (k + 1)))
      rcases pr_iu r hW (nI k) with ⟨u1, i, p, u2, u3⟩ | ⟨u1, u2⟩
      · rw [u1, Option.bind_some, if_neg (show ¬ (1 : Int32) = 0 by decide), if_pos ((hbit k (by omega)).mpr ⟨i, p, u2, u3⟩), nI_1]
      · have : ¬ A.testBit k = true := fun q => by
          obtain ⟨i, p, z1, z2⟩ := (hbit k (by omega)).mp q
          exact u2 i p z1 z2
        rw [u1, Option.bind_some, if_pos rfl, if_neg this, Int32.add_zero]
        rfl)
    (by
      dsimp only
      unfold b_X3_count_47
      rw [if_pos (show (40 : Int32) ≤ nI 40 from Int32.le_refl _)]) 40 0 300 rfl (by omega)
  exact h
theorem c_inodes {c : CS} {r : RS} (hR : RW c r) : ∃ v, f_X2_countInodes c = some v ∧ itl (fun a : Int32 × Int32 => b_X3_count_82 r a.1 a.2) 300 ((0 : Int32), (0 : Int32)) = some v := by
  obtain ⟨x, x', e1, e2, hJ⟩ := itl_two (b := fun a : Int32 × Int32 => b_X2_countInodes_4 c a.1 a.2) (b' := fun a : Int32 × Int32 => b_X3_count_82 r a.1 a.2) (fun k a a' => a = a' ∧ a.2 = nI k) (fun x x' => x = x') 12 (by
      rintro k ⟨a, a2⟩ ⟨a', a2'⟩ hk ⟨h1, h2⟩
      cases h1
      dsimp only at h2
      subst h2
      right
      have hn : ¬ (12 : Int32) ≤ nI k := m_nle (N := 12) hk (by omega)
      by_cases e : R_kind r k = 0
      · refine ⟨(a, nI (k + 1)), (a, nI (k + 1)), ?_, ?_, rfl, rfl⟩
        · dsimp only
          unfold b_X2_countInodes_4
          rw [if_neg hn, rd_k hR hk, if_pos e, nI_1]
        · dsimp only
          unfold b_X3_count_82
          rw [if_neg hn, m_chk hk (by omega), m_cl (by omega), if_pos e, nI_1, Int32.add_zero]
      · refine ⟨(a + 1, nI (k + 1)), (a + 1, nI (k + 1)), ?_, ?_, rfl, rfl⟩
        · dsimp only
          unfold b_X2_countInodes_4
          rw [if_neg hn, rd_k hR hk, if_neg e, nI_1]
        · dsimp only
          unfold b_X3_count_82
          rw [if_neg hn, m_chk hk (by omega), m_cl (by omega), if_neg e, nI_1])
    (by
      rintro ⟨a, a2⟩ ⟨a', a2'⟩ ⟨h1, h2⟩
      cases h1
      dsimp only at h2
      subst h2
      refine ⟨a, a, ?_, ?_, rfl⟩
      · dsimp only
        unfold b_X2_countInodes_4
        rw [if_pos (show (12 : Int32) ≤ nI 12 from Int32.le_refl _)]
      · dsimp only
        unfold b_X3_count_82
        rw [if_pos (show (12 : Int32) ≤ nI 12 from Int32.le_refl _)])
    12 0 300 300 ((0 : Int32), (0 : Int32)) ((0 : Int32), (0 : Int32)) rfl (by omega) (by omega) ⟨rfl, rfl⟩
  refine ⟨x, ?_, by rw [hJ]; exact e2⟩
  unfold f_X2_countInodes
  rw [e1, Option.bind_some]
theorem c_mis {c : CS} {r : RS} (hR : RW c r) (hW : WI (R_kind r) (R_size r) (R_pl r) (R_rec r)) : ∃ v, f_X2_countMisplacedBlocks c = some v ∧ itl (fun a : Int32 × Int32 × Int32 => b_X3_count_128 r a.1 a.2.1 a.2.2) 300 ((0 : Int32), (0 : Int32), (0 : Int32)) = some v := by
  obtain ⟨x, x', e1, e2, hJ⟩ := itl_two (b := fun a : Int32 × Int32 × Int32 => b_X2_countMisplacedBlocks_6 c a.1 a.2.1 a.2.2) (b' := fun a : Int32 × Int32 × Int32 => b_X3_count_128 r a.1 a.2.1 a.2.2) (fun k a a' => ∃ g m, a = (g, m, nI k) ∧ a' = (m, g, nI k)) (fun x x' => x = x') 12 (by
      rintro i a a' hi ⟨g, m, rfl, rfl⟩
      right
      obtain ⟨n, hn, hum, q1, q2⟩ := us_m hW hi
      have h12 : ¬ (12 : Int32) ≤ nI i := m_nle (N := 12) hi (by omega)
      obtain ⟨y, y', f1, f2, g', m', rfl, rfl⟩ := itl_two (b := fun a : Int32 × Int32 × Int32 => b_X2_countMisplacedBlocks_22 (nI i) (nI n) c a.1 a.2.1 a.2.2) (b' := fun a : Int32 × Int32 × Int32 => b_X3_count_138 (nI i) r a.1 a.2.1 a.2.2) (fun k a a' => ∃ g m, a = (g, m, nI k) ∧ a' = (m, g, nI k)) (fun x x' => ∃ g m, x = (g, m) ∧ x' = (m, g)) n (by
          rintro p a a' hp ⟨g, m, rfl, rfl⟩
          right
          have hup := (hum p).mpr hp
          have hk := hup.2.2.1
          have hle : ¬ nI n ≤ nI p := m_nle hp (by omega)
          by_cases e : R_pl r (8 * i + p) = g
          · refine ⟨(g + 1, m, nI (p + 1)), (m, g + 1, nI (p + 1)), ?_, ?_, _, _, rfl, rfl⟩
            · dsimp only
              unfold b_X2_countMisplacedBlocks_22
              rw [if_neg hle, rd_p hR hi (by omega), if_pos e, nI_1]
            · dsimp only
              unfold b_X3_count_138
              rw [m_chk hi (by omega), m_cl (show i < 2 ^ 31 by omega), if_pos hk, m_chk hi (by omega), q1 hk, if_neg hle, m_ix8, m_chk (show 8 * i + p < 96 by omega) (by omega), m_cl (by omega), if_pos e, nI_1, Int32.add_zero]
          · refine ⟨(g + 1, m + 1, nI (p + 1)), (m + 1, g + 1, nI (p + 1)), ?_, ?_, _, _, rfl, rfl⟩
            · dsimp only
              unfold b_X2_countMisplacedBlocks_22
              rw [if_neg hle, rd_p hR hi (by omega), if_neg e, nI_1]
            · dsimp only
              unfold b_X3_count_138
              rw [m_chk hi (by omega), m_cl (show i < 2 ^ 31 by omega), if_pos hk, m_chk hi (by omega), q1 hk, if_neg hle, m_ix8, m_chk (show 8 * i + p < 96 by omega) (by omega), m_cl (by omega), if_neg e, nI_1])
        (by
          rintro a a' ⟨g, m, rfl, rfl⟩
          refine ⟨(g, m), (m, g), ?_, ?_, g, m, rfl, rfl⟩
          · dsimp only
            unfold b_X2_countMisplacedBlocks_22
            rw [if_pos (Int32.le_refl _)]
          · dsimp only
            unfold b_X3_count_138
            rw [m_chk hi (by omega), m_cl (show i < 2 ^ 31 by omega)]
            by_cases e : R_kind r i = 2
            · rw [if_pos e, m_chk hi (by omega), q1 e, if_pos (Int32.le_refl _)]
            · rw [if_neg e])
        n 0 300 300 (g, m, (0 : Int32)) (m, g, (0 : Int32)) (by omega) (by omega) (by omega) ⟨g, m, rfl, rfl⟩
      refine ⟨(g', m', nI (i + 1)), (m', g', nI (i + 1)), ?_, ?_, g', m', rfl, rfl⟩
      · dsimp only
        unfold b_X2_countMisplacedBlocks_6
        rw [if_neg h12, rd_b hR hi q1 q2, f1, Option.bind_some, nI_1]
      · dsimp only
        unfold b_X3_count_128
        rw [if_neg h12, f2, Option.bind_some, nI_1])
    (by
      rintro a a' ⟨g, m, rfl, rfl⟩
      refine ⟨m, m, ?_, ?_, rfl⟩
      · dsimp only
        unfold b_X2_countMisplacedBlocks_6
        rw [if_pos (show (12 : Int32) ≤ nI 12 from Int32.le_refl _)]
      · dsimp only
        unfold b_X3_count_128
        rw [if_pos (show (12 : Int32) ≤ nI 12 from Int32.le_refl _)])
    12 0 300 300 ((0 : Int32), (0 : Int32), (0 : Int32)) ((0 : Int32), (0 : Int32), (0 : Int32)) rfl (by omega) (by omega) ⟨0, 0, rfl, rfl⟩
  refine ⟨x, ?_, by rw [hJ]; exact e2⟩
  unfold f_X2_countMisplacedBlocks
  rw [e1, Option.bind_some]
theorem c_ents {c : CS} {r : RS} (hR : RW c r) : ∃ v, f_X2_countEntries c = some v ∧ itl (fun a : Int32 × Int32 => b_X3_count_206 r a.1 a.2) 300 ((0 : Int32), (0 : Int32)) = some v := by
  have hQ : ∀ d, d < 12 → cn (fun k => R_kind r (k / 8) = 1 ∧ ¬ R_pl r k = 0) (8 * d + 8) = cn (fun k => R_kind r (k / 8) = 1 ∧ ¬ R_pl r k = 0) (8 * d) + (if R_kind r d = 1 then cn (fun p => ¬ R_pl r (8 * d + p) = 0) 8 else 0) := by
    intro d hd
    rw [cn_app (8 * d) 8]
    congr 1
    by_cases e : R_kind r d = 1
    · rw [if_pos e]
      refine cn_congr 8 (fun p hp => ?_)
      rw [show (8 * d + p) / 8 = d by omega]
      exact ⟨fun h => h.2, fun h => ⟨e, h⟩⟩
    · rw [if_neg e]
      have : cn (fun x => R_kind r ((8 * d + x) / 8) = 1 ∧ ¬ R_pl r (8 * d + x) = 0) 8 = cn (fun _ => False) 8 := cn_congr 8 (fun p hp => by
        rw [show (8 * d + p) / 8 = d by omega]
        exact ⟨fun h => e h.1, fun h => h.elim⟩)
      rw [this]; rfl
  refine ⟨nI (cn (fun k => R_kind r (k / 8) = 1 ∧ ¬ R_pl r k = 0) 96), ?_, ?_⟩
  · have h := itl_run (b := fun a : Int32 × Int32 => b_X2_countEntries_4 c a.1 a.2) (fun d => (nI (cn (fun k => R_kind r (k / 8) = 1 ∧ ¬ R_pl r k = 0) (8 * d)), nI d)) (nI (cn (fun k => R_kind r (k / 8) = 1 ∧ ¬ R_pl r k = 0) 96)) 12 (by
        intro d hd
        dsimp only
        unfold b_X2_countEntries_4
        rw [if_neg (show ¬ (12 : Int32) ≤ nI d from m_nle (N := 12) hd (by omega)), rd_k hR hd, nI_1, show 8 * (d + 1) = 8 * d + 8 by omega, hQ d hd]
        by_cases e : R_kind r d = 1
        · rw [if_pos e, if_pos e, pr_eo hR hd, Option.bind_some, nI_add]
        · rw [if_neg e, if_neg e]
          rfl)
      (by
        dsimp only
        unfold b_X2_countEntries_4
        rw [if_pos (show (12 : Int32) ≤ nI 12 from Int32.le_refl _)]) 12 0 300 rfl (by omega)
    have h2 : itl (fun a : Int32 × Int32 => b_X2_countEntries_4 c a.1 a.2) 300 ((0 : Int32), (0 : Int32)) = _ := h
    unfold f_X2_countEntries
    rw [h2, Option.bind_some]
  · have h := itl_run (b := fun a : Int32 × Int32 => b_X3_count_206 r a.1 a.2) (fun k => (nI (cn (fun k => R_kind r (k / 8) = 1 ∧ ¬ R_pl r k = 0) k), nI k)) (nI (cn (fun k => R_kind r (k / 8) = 1 ∧ ¬ R_pl r k = 0) 96)) 96 (by
        intro k hk
        dsimp only
        unfold b_X3_count_206
        rw [if_neg (show ¬ (96 : Int32) ≤ nI k from m_nle (N := 96) hk (by omega)), n_div8 (by omega), m_chk (show k / 8 < 12 by omega) (by omega), m_cl (show k / 8 < 2 ^ 31 by omega), m_chk hk (by omega), m_cl (show k < 2 ^ 31 by omega), nI_1, Int32.add_zero, nI_1]
        show _ = some (Sum.inr (nI (cn (fun k => R_kind r (k / 8) = 1 ∧ ¬ R_pl r k = 0) k + if R_kind r (k / 8) = 1 ∧ ¬ R_pl r k = 0 then 1 else 0), nI (k + 1)))
        by_cases e : R_kind r (k / 8) = 1
        · rw [if_pos e]
          by_cases e2 : R_pl r k = 0
          · rw [if_pos e2, if_neg (fun q => q.2 e2)]; rfl
          · rw [if_neg e2, if_pos ⟨e, e2⟩]
        · rw [if_neg e, if_neg (fun q => e q.1)]; rfl)
      (by
        dsimp only
        unfold b_X3_count_206
        rw [if_pos (show (96 : Int32) ≤ nI 96 from Int32.le_refl _)]) 96 0 300 rfl (by omega)
    exact h
theorem mm_count {c : CS} {r : RS} (hB : RB c r) (hI : IV r) (x1 : Int32) : ∃ v, f_X2_count x1 c = some v ∧ f_X3_count x1 r = some v := by
  unfold f_X2_count f_X3_count
  by_cases h0 : x1 = 0
  · rw [if_pos h0, if_pos h0]
    obtain ⟨v, e1, e2⟩ := c_used hB.1 hI.1
    exact ⟨v, e1, by rw [e2, Option.bind_some]⟩
  rw [if_neg h0, if_neg h0]
  by_cases h1 : x1 = 1
  · rw [if_pos h1, if_pos h1]
    obtain ⟨v, e1, e2⟩ := c_inodes hB.1
    exact ⟨v, by rw [e1, Option.bind_some], by rw [e2, Option.bind_some]⟩
  rw [if_neg h1, if_neg h1]
  by_cases h2 : x1 = 2
  · rw [if_pos h2, if_pos h2]; exact ⟨R_wr r, by rw [hB.2.2.1], rfl⟩
  rw [if_neg h2, if_neg h2]
  by_cases h3 : x1 = 3
  · rw [if_pos h3, if_pos h3]; exact ⟨R_mv r, by rw [hB.2.2.2.1], rfl⟩
  rw [if_neg h3, if_neg h3]
  by_cases h4 : x1 = 4
  · rw [if_pos h4, if_pos h4]
    obtain ⟨v, e1, e2⟩ := c_mis hB.1 hI.1
    exact ⟨v, by rw [e1, Option.bind_some], by rw [e2, Option.bind_some]⟩
  rw [if_neg h4, if_neg h4]
  by_cases h5 : x1 = 5
  · rw [if_pos h5, if_pos h5]
    obtain ⟨v, e1, e2⟩ := c_ents hB.1
    exact ⟨v, by rw [e1, Option.bind_some], by rw [e2, Option.bind_some]⟩
  rw [if_neg h5, if_neg h5]
  exact ⟨_, rfl, rfl⟩
/-! digest -/
def hs (f : Nat → Int64) (h : Int64) : Nat → Int64
  | 0 => h
  | k + 1 => 31 * hs f h k + f k
theorem hs_app (f : Nat → Int64) (h : Int64) (j : Nat) : ∀ k, hs f h (j + k) = hs (fun x => f (j + x)) (hs f h j) k
  | 0 => rfl
  | k + 1 => by
    show 31 * hs f h (j + k) + f (j + k) = _
    rw [hs_app f h j k]
    rfl
theorem hs_congr {f g : Nat → Int64} (h : Int64) : ∀ k, (∀ x, x < k → f x = g x) → hs f h k = hs g h k
  | 0, _ => rfl
  | k + 1, e => by
    show 31 * hs f h k + f k = 31 * hs g h k + g k
    rw [hs_congr h k (fun x hx => e x (by omega)), e k (by omega)]
theorem io_r (r : RS) {i w : Nat} (hi : i < 12) (hw : w < 10) : ∃ v, f_X3_inodeOf (nI i) (nI w) r = some v ∧ ∀ c, RW c r → C_ws c (10 * i + w) = v.toInt64 := by
  unfold f_X3_inodeOf
  by_cases h0 : w = 0
  · subst h0
    rw [if_pos (show nI 0 = (0 : Int32) from rfl), m_chk hi (by omega), m_cl (by omega)]
    exact ⟨_, rfl, fun c h => h.1 i hi⟩
  · rw [if_neg (nI_ne0 (show 0 < w by omega) (by omega))]
    by_cases h1 : w = 1
    · subst h1
      rw [if_pos (show nI 1 = (1 : Int32) from rfl), m_chk hi (by omega), m_cl (by omega)]
      exact ⟨_, rfl, fun c h => h.2.1 i hi⟩
    · obtain ⟨p, rfl⟩ : ∃ p, w = p + 2 := ⟨w - 2, by omega⟩
      have hne : ¬ nI (p + 2) = 1 := fun q => h1 (m_inj (a := p + 2) (b := 1) (by omega) (by omega) q)
      have hsub : nI (8 * i + (p + 2)) - (2 : Int32) = nI (8 * i + p) := by
        rw [show (2 : Int32) = nI 2 from rfl, pk_sub (by omega)]
        congr 1
      rw [if_neg hne, m_ix8, hsub, m_chk (show 8 * i + p < 96 by omega) (by omega), m_cl (by omega)]
      exact ⟨_, rfl, fun c h => by rw [show 10 * i + (p + 2) = 10 * i + 2 + p by omega]; exact h.2.2.1 i p hi (by omega)⟩
theorem mm_digest {c : CS} {r : RS} (hB : RB c r) : ∃ v, f_X2_digest c = some v ∧ f_X3_digest r = some v := by
  have hc : itl (fun a : Int64 × Int32 => b_X2_digest_6 c a.1 a.2) 300 ((3 : Int64), (0 : Int32)) = some (hs (C_ws c) 3 244) := by
    have h := itl_run (b := fun a : Int64 × Int32 => b_X2_digest_6 c a.1 a.2) (fun k => (hs (C_ws c) 3 k, nI k)) (hs (C_ws c) 3 244) 244 (by
        intro k hk
        dsimp only
        unfold b_X2_digest_6
        rw [if_neg (show ¬ (244 : Int32) ≤ nI k from m_nle (N := 244) hk (by omega)), rd_w c hk, nI_1]
        rfl)
      (by
        dsimp only
        unfold b_X2_digest_6
        rw [if_pos (show (244 : Int32) ≤ nI 244 from Int32.le_refl _)]) 244 0 300 rfl (by omega)
    exact h
  have r1 : itl (fun a : Int64 × Int32 => b_X3_digest_6 r a.1 a.2) 300 ((3 : Int64), (0 : Int32)) = some (hs (C_ws c) 3 120) := by
    have h := itl_run (b := fun a : Int64 × Int32 => b_X3_digest_6 r a.1 a.2) (fun i => (hs (C_ws c) 3 (10 * i), nI i)) (hs (C_ws c) 3 120) 12 (by
        intro i hi
        dsimp only
        have hin : itl (fun a : Int64 × Int32 => b_X3_digest_15 (nI i) r a.1 a.2) 300 (hs (C_ws c) 3 (10 * i), (0 : Int32)) = some (hs (C_ws c) 3 (10 * i + 10)) := by
          have h := itl_run (b := fun a : Int64 × Int32 => b_X3_digest_15 (nI i) r a.1 a.2) (fun w => (hs (C_ws c) 3 (10 * i + w), nI w)) (hs (C_ws c) 3 (10 * i + 10)) 10 (by
              intro w hw
              obtain ⟨v, v1, v2⟩ := io_r r hi hw
              dsimp only
              unfold b_X3_digest_15
              rw [if_neg (show ¬ (10 : Int32) ≤ nI w from m_nle (N := 10) hw (by omega)), v1, Option.bind_some, nI_1, ← v2 c hB.1]
              rfl)
            (by
              dsimp only
              unfold b_X3_digest_15
              rw [if_pos (show (10 : Int32) ≤ nI 10 from Int32.le_refl _)]) 10 0 300 rfl (by omega)
          exact h
        unfold b_X3_digest_6
        rw [if_neg (show ¬ (12 : Int32) ≤ nI i from m_nle (N := 12) hi (by omega)), hin, Option.bind_some, nI_1]
        rfl)
      (by
        dsimp only
        unfold b_X3_digest_6
        rw [if_pos (show (12 : Int32) ≤ nI 12 from Int32.le_refl _)]) 12 0 300 rfl (by omega)
    exact h
  have r2 : itl (fun a : Int64 × Int32 => b_X3_digest_51 r a.1 a.2) 300 (hs (C_ws c) 3 120, (0 : Int32)) = some (hs (C_ws c) 3 240) := by
    have h := itl_run (b := fun a : Int64 × Int32 => b_X3_digest_51 r a.1 a.2) (fun k => (hs (C_ws c) 3 (120 + k), nI k)) (hs (C_ws c) 3 240) 120 (by
        intro k hk
        dsimp only
        unfold b_X3_digest_51
        rw [if_neg (show ¬ (120 : Int32) ≤ nI k from m_nle (N := 120) hk (by omega)), m_chk hk (by omega), m_cl (by omega), nI_1, ← hB.1.2.2.2.1 k hk]
        rfl)
      (by
        dsimp only
        unfold b_X3_digest_51
        rw [if_pos (show (120 : Int32) ≤ nI 120 from Int32.le_refl _)]) 120 0 300 rfl (by omega)
    exact h
  have r3 : itl (fun a : Int64 × Int32 => b_X3_digest_78 r a.1 a.2) 300 (hs (C_ws c) 3 240, (0 : Int32)) = some (hs (C_ws c) 3 244) := by
    have h := itl_run (b := fun a : Int64 × Int32 => b_X3_digest_78 r a.1 a.2) (fun k => (hs (C_ws c) 3 (240 + k), nI k)) (hs (C_ws c) 3 244) 4 (by
        intro k hk
        dsimp only
        unfold b_X3_digest_78
        rw [if_neg (show ¬ (4 : Int32) ≤ nI k from m_nle (N := 4) hk (by omega)), m_chk hk (by omega), m_cl (by omega), nI_1, ← hB.1.2.2.2.2 k hk]
        rfl)
      (by
        dsimp only
        unfold b_X3_digest_78
        rw [if_pos (show (4 : Int32) ≤ nI 4 from Int32.le_refl _)]) 4 0 300 rfl (by omega)
    exact h
  unfold f_X2_digest f_X3_digest
  rw [hc, r1, Option.bind_some, Option.bind_some, r2, Option.bind_some, r3, Option.bind_some, mm_isDown hB]
  exact ⟨_, rfl, rfl⟩
