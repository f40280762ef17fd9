/-! chooseMove and lookAt; findNextMove and look; plan -/
theorem SR_t {a b c : RS} (h1 : SR a b) (h2 : SR b c) : SR a c := ⟨h2.1.trans h1.1, h2.2.1.trans h1.2.1, h2.2.2.1.trans h1.2.2.1, h2.2.2.2.1.trans h1.2.2.2.1, h2.2.2.2.2.1.trans h1.2.2.2.2.1, h2.2.2.2.2.2.1.trans h1.2.2.2.2.2.1, h2.2.2.2.2.2.2.1.trans h1.2.2.2.2.2.2.1, h2.2.2.2.2.2.2.2.1.trans h1.2.2.2.2.2.2.2.1, h2.2.2.2.2.2.2.2.2.1.trans h1.2.2.2.2.2.2.2.2.1, h2.2.2.2.2.2.2.2.2.2.trans h1.2.2.2.2.2.2.2.2.2⟩
theorem SR_pi (v : Int32) (r : RS) : SR r (sR_pi v r) := ⟨rfl, rfl, rfl, rfl, rfl, rfl, rfl, rfl, rfl, rfl⟩
theorem SR_pp (v : Int32) (r : RS) : SR r (sR_pp v r) := ⟨rfl, rfl, rfl, rfl, rfl, rfl, rfl, rfl, rfl, rfl⟩
theorem SR_pt (v : Int32) (r : RS) : SR r (sR_pt v r) := ⟨rfl, rfl, rfl, rfl, rfl, rfl, rfl, rfl, rfl, rfl⟩
theorem SR_pf (v : Int32) (r : RS) : SR r (sR_pf v r) := ⟨rfl, rfl, rfl, rfl, rfl, rfl, rfl, rfl, rfl, rfl⟩
theorem g_pi_pi (v : Int32) (r : RS) : R_pi (sR_pi v r) = v := rfl
theorem g_pi_pp (v : Int32) (r : RS) : R_pi (sR_pp v r) = R_pi r := rfl
theorem g_pi_pt (v : Int32) (r : RS) : R_pi (sR_pt v r) = R_pi r := rfl
theorem g_pi_pf (v : Int32) (r : RS) : R_pi (sR_pf v r) = R_pi r := rfl
theorem g_pp_pi (v : Int32) (r : RS) : R_pp (sR_pi v r) = R_pp r := rfl
theorem g_pp_pp (v : Int32) (r : RS) : R_pp (sR_pp v r) = v := rfl
theorem g_pp_pt (v : Int32) (r : RS) : R_pp (sR_pt v r) = R_pp r := rfl
theorem g_pp_pf (v : Int32) (r : RS) : R_pp (sR_pf v r) = R_pp r := rfl
theorem g_pt_pi (v : Int32) (r : RS) : R_pt (sR_pi v r) = R_pt r := rfl
theorem g_pt_pp (v : Int32) (r : RS) : R_pt (sR_pp v r) = R_pt r := rfl
theorem g_pt_pt (v : Int32) (r : RS) : R_pt (sR_pt v r) = v := rfl
theorem g_pt_pf (v : Int32) (r : RS) : R_pt (sR_pf v r) = R_pt r := rfl
theorem g_pf_pf (v : Int32) (r : RS) : R_pf (sR_pf v r) = v := rfl
theorem SC_set (a b d : Int32) (c : CS) : SC c (f_X1_set a b d c) := ⟨rfl, rfl, rfl, rfl, rfl, rfl⟩
theorem c_pi_set (a b d : Int32) (c : CS) : C_pi (f_X1_set a b d c) = a := rfl
theorem c_pp_set (a b d : Int32) (c : CS) : C_pp (f_X1_set a b d c) = b := rfl
theorem c_pt_set (a b d : Int32) (c : CS) : C_pt (f_X1_set a b d c) = d := rfl
theorem pr_cm {c : CS} {r : RS} (hR : RW c r) (hW : WI (R_kind r) (R_size r) (R_pl r) (R_rec r)) {i p g : Nat} (hu : US (R_kind r) (R_size r) i p) (hg : g < 40) :
    ∃ x x', f_X2_chooseMove (nI i) (nI p) (nI g) c = some x ∧ f_X3_lookAt (nI i) (nI p) (nI g) r = some x' ∧ RE c r x x' := by
  obtain ⟨A, hA, hub, hbit⟩ := pr_ub hR hW
  have hi := hu.1
  have hp := hu.2.1
  unfold f_X2_chooseMove f_X3_lookAt
  have s3 : SR r (sR_pt (nI g) (sR_pp (nI p) (sR_pi (nI i) r))) := SR_t (SR_t (SR_pi _ _) (SR_pp _ _)) (SR_pt _ _)
  have a1 : R_pi (sR_pt (nI g) (sR_pp (nI p) (sR_pi (nI i) r))) = nI i := by rw [g_pi_pt, g_pi_pp, g_pi_pi]
  have a2 : R_pp (sR_pt (nI g) (sR_pp (nI p) (sR_pi (nI i) r))) = nI p := by rw [g_pp_pt, g_pp_pp]
  have a3 : R_pt (sR_pt (nI g) (sR_pp (nI p) (sR_pi (nI i) r))) = nI g := by rw [g_pt_pt]
  generalize sR_pt (nI g) (sR_pp (nI p) (sR_pi (nI i) r)) = st at s3 a1 a2 a3 ⊢
  have hW3 : WI (R_kind st) (R_size st) (R_pl st) (R_rec st) := by rw [s3.1, s3.2.1, s3.2.2.1, s3.2.2.2.2.1]; exact hW
  have hR3 : RW c st := RW_pow hR s3.1 s3.2.1 s3.2.2.1 s3.2.2.2.1 s3.2.2.2.2.1
  rw [hub, Option.bind_some]
  rcases pr_iu st hW3 (nI g) with ⟨u1, i0, p0, u2, u3⟩ | ⟨u1, u2⟩
  · rw [s3.1, s3.2.1] at u2
    rw [s3.2.2.1] at u3
    have ht : ¬ A.testBit g = false := by rw [(hbit g (by omega)).mpr ⟨i0, p0, u2, u3⟩]; decide
    rw [if_neg (fun q => ht ((ub_t hA (by omega)).mp q)), u1, Option.bind_some, if_neg (show ¬ (1 : Int32) = 0 by decide)]
    have hf : ∀ j q, US (R_kind r) (R_size r) j q → R_pl r (8 * j + q) = nI g → j = i0 ∧ q = p0 := fun j q z1 z2 => hW.2.2.2.2.2.1 j q i0 p0 z1 u2 (z2.trans u3.symm)
    have hi0 := u2.1
    have hp0 := u2.2.1
    have fin : ∀ v : Int32, ∃ ev, itl (fun a : Int32 × RS => b_X3_lookAt_35 (nI g) a.1 a.2) 300 ((11 : Int32), sR_pt v st) = some ev ∧ SR r ev ∧ R_pi ev = nI i0 ∧ R_pp ev = nI p0 ∧ R_pt ev = v := by
      intro v
      have s4 : SR r (sR_pt v st) := SR_t s3 (SR_pt _ _)
      refine ⟨_, pr_la (r := r) (st := sR_pt v st) hW s4.1 s4.2.1 s4.2.2.1 u2 u3 hf, SR_t s4 (SR_t (SR_pi _ _) (SR_pp _ _)), ?_, ?_, ?_⟩
      · rw [g_pi_pp, g_pi_pi]
      · rw [g_pp_pp]
      · rw [g_pt_pp, g_pt_pi, g_pt_pt]
    obtain ⟨U, gu, hgf⟩ := pr_gf hR3 hW3
    have eU : U = lN A := Option.some.inj (gu.symm.trans hub)
    subst eU
    rcases hgf with ⟨b, hb, hfr, g1, g2⟩ | ⟨g1, g2⟩
    · obtain ⟨ev, k1, k2, k3, k4, k5⟩ := fin (nI b)
      rw [g1, g2, Option.bind_some, Option.bind_some, if_neg (nI_n3 b (by omega)), pr_ca hR hW (nI b) u2 u3 hf, Option.bind_some, k1, Option.bind_some]
      rw [k3, k4, m_ix8, m_chk (show 8 * i0 + p0 < 96 by omega) (by omega), m_cl (by omega), g_pt_pf, k5, if_pos (nI_pos' (show b < 2 ^ 31 by omega))]
      rw [s3.1, s3.2.1, s3.2.2.1] at hfr
      refine ⟨_, _, rfl, rfl, SC_set _ _ _ _, SR_t k2 (SR_pf _ _), Or.inr ⟨rfl, rfl, i0, p0, b, u2, hb, hfr, c_pi_set _ _ _ _, c_pp_set _ _ _ _, c_pt_set _ _ _ _, ?_, ?_, ?_, ?_⟩⟩
      · rw [g_pi_pf, k3]
      · rw [g_pp_pf, k4]
      · rw [g_pt_pf, k5]
      · rw [g_pf_pf, k2.2.2.1]
    · obtain ⟨ev, k1, k2, k3, k4, k5⟩ := fin (-1)
      rw [g1, g2, Option.bind_some, Option.bind_some, if_pos rfl, k1, Option.bind_some]
      rw [k3, k4, m_ix8, m_chk (show 8 * i0 + p0 < 96 by omega) (by omega), m_cl (by omega), g_pt_pf, k5, if_neg (show ¬ (0 : Int32) ≤ -1 by decide)]
      exact ⟨_, _, rfl, rfl, SC_r c, SR_t k2 (SR_pf _ _), Or.inl ⟨rfl, rfl⟩⟩
  · rw [s3.1, s3.2.1, s3.2.2.1] at u2
    have ht : A.testBit g = false := by
      cases h : A.testBit g with
      | false => rfl
      | true =>
        obtain ⟨i, p, z1, z2⟩ := (hbit g (by omega)).mp h
        exact absurd z2 (u2 i p z1)
    rw [if_pos ((ub_t hA (by omega)).mpr ht), u1, Option.bind_some, if_pos rfl]
    rw [a1, a2, m_ix8, m_chk (show 8 * i + p < 96 by omega) (by omega), m_cl (by omega), g_pt_pf, a3, if_pos (nI_pos' (show g < 2 ^ 31 by omega))]
    refine ⟨_, _, rfl, rfl, SC_set _ _ _ _, SR_t s3 (SR_pf _ _), Or.inr ⟨rfl, rfl, i, p, g, hu, hg, u2, c_pi_set _ _ _ _, c_pp_set _ _ _ _, c_pt_set _ _ _ _, ?_, ?_, ?_, ?_⟩⟩
    · rw [g_pi_pf, a1]
    · rw [g_pp_pf, a2]
    · rw [g_pt_pf, a3]
    · rw [g_pf_pf, s3.2.2.1]
/-- all blocks ahead of place p of inode i are where they ought to be -/
def AH (r : RS) (i p g : Nat) : Prop := g ≤ 40 ∧ ∀ b, b < g → ∃ i' p', US (R_kind r) (R_size r) i' p' ∧ (i' < i ∨ (i' = i ∧ p' < p)) ∧ R_pl r (8 * i' + p') = nI b
theorem pr_look {c : CS} {r : RS} (hR : RW c r) (hW : WI (R_kind r) (R_size r) (R_pl r) (R_rec r)) : ∃ x x', f_X2_findNextMove c = some x ∧ f_X3_look r = some x' ∧ ((x = (-3, c) ∧ x' = (0, r)) ∨ RE c r x x') := by
  obtain ⟨x, x', e1, e2, hJ⟩ := itl_two (b := fun a : Int32 × Int32 × CS => b_X2_findNextMove_4 a.1 a.2.1 a.2.2) (b' := fun a : Int32 × Int32 × RS => b_X3_look_4 a.1 a.2.1 a.2.2)
    (fun k a a' => ∃ g, AH r k 0 g ∧ a = (nI g, nI k, c) ∧ a' = (nI g, nI k, r))
    (fun x x' => (x = .inr c ∧ x' = .inr r) ∨ (∃ y y', x = .inl y ∧ x' = .inl y' ∧ RE c r y y')) 12 (by
      rintro i a a' hi ⟨g, hg, rfl, rfl⟩
      obtain ⟨m, hm, hum, q1, q2⟩ := us_m hW hi
      obtain ⟨y, y', f1, f2, hK⟩ := itl_two (b := fun a : Int32 × Int32 × CS => b_X2_findNextMove_19 (nI i) (nI m) a.1 a.2.1 a.2.2) (b' := fun a : Int32 × Int32 × RS => b_X3_look_12 (nI i) a.1 a.2.1 a.2.2)
        (fun k a a' => ∃ g, AH r i k g ∧ a = (nI g, nI k, c) ∧ a' = (nI g, nI k, r))
        (fun x x' => (∃ g, AH r (i + 1) 0 g ∧ x = .inr (nI g, c) ∧ x' = .inr (nI g, r)) ∨ (∃ y y', x = .inl y ∧ x' = .inl y' ∧ RE c r y y')) m (by
          rintro p a a' hpm ⟨g, hg, rfl, rfl⟩
          have hup := (hum p).mpr hpm
          have hk := hup.2.2.1
          obtain ⟨t, ht, hpt⟩ := hW.2.2.2.2.1 i p hup
          have E1 : b_X2_findNextMove_19 (nI i) (nI m) (nI g) (nI p) c = if nI t = nI g then some (.inr (nI (g + 1), nI (p + 1), c)) else ((f_X2_chooseMove (nI i) (nI p) (nI g) c).bind (fun z => some (.inl (.inl (z.1, z.2))))) := by
            unfold b_X2_findNextMove_19
            rw [if_neg (m_nle hpm (by omega)), rd_p hR hi (by omega), hpt, nI_1, nI_1]
          have E2 : b_X3_look_12 (nI i) (nI g) (nI p) r = if nI t = nI g then some (.inr (nI (g + 1), nI (p + 1), r)) else ((f_X3_lookAt (nI i) (nI p) (nI g) r).bind (fun z => some (.inl (.inl (z.1, z.2))))) := by
            unfold b_X3_look_12
            rw [m_chk hi (by omega), m_cl (show i < 2 ^ 31 by omega), if_pos hk, m_chk hi (by omega), q1 hk, if_neg (m_nle hpm (by omega)), m_ix8, m_chk (show 8 * i + p < 96 by omega) (by omega), m_cl (by omega), hpt, nI_1, nI_1]
          have hg40 := hg.1
          by_cases e : t = g
          · right
            subst e
            refine ⟨(nI (t + 1), nI (p + 1), c), (nI (t + 1), nI (p + 1), r), by dsimp only; rw [E1, if_pos rfl], by dsimp only; rw [E2, if_pos rfl], t + 1, ⟨by omega, fun b hb => ?_⟩, rfl, rfl⟩
            by_cases e2 : b = t
            · exact ⟨i, p, hup, Or.inr ⟨rfl, by omega⟩, by rw [hpt, e2]⟩
            · obtain ⟨i', p', z1, z2, z3⟩ := hg.2 b (by omega)
              refine ⟨i', p', z1, ?_, z3⟩
              rcases z2 with z2 | ⟨z2, z4⟩
              · exact Or.inl z2
              · exact Or.inr ⟨z2, by omega⟩
          · left
            have ne : ¬ nI t = nI g := fun q => e (m_inj (by omega) (by omega) q)
            have hg39 : g < 40 := by
              rcases Nat.lt_or_ge g 40 with z | z
              · exact z
              · obtain ⟨i', p', z1, z2, z3⟩ := hg.2 t (by omega)
                obtain ⟨a1, a2⟩ := hW.2.2.2.2.2.1 i' p' i p z1 hup (z3.trans hpt.symm)
                omega
            obtain ⟨y, y', h1, h2, h3⟩ := pr_cm hR hW hup hg39
            exact ⟨.inl (y.1, y.2), .inl (y'.1, y'.2), by dsimp only; rw [E1, if_neg ne, h1, Option.bind_some], by dsimp only; rw [E2, if_neg ne, h2, Option.bind_some], Or.inr ⟨(y.1, y.2), (y'.1, y'.2), rfl, rfl, h3⟩⟩)
        (by
          rintro a a' ⟨g, hg, rfl, rfl⟩
          refine ⟨.inr (nI g, c), .inr (nI g, r), ?_, ?_, Or.inl ⟨g, ⟨hg.1, fun b hb => ?_⟩, rfl, rfl⟩⟩
          · dsimp only
            unfold b_X2_findNextMove_19
            rw [if_pos (Int32.le_refl _)]
          · dsimp only
            unfold b_X3_look_12
            rw [m_chk hi (by omega), m_cl (show i < 2 ^ 31 by omega)]
            by_cases e : R_kind r i = 2
            · rw [if_pos e, m_chk hi (by omega), q1 e, if_pos (Int32.le_refl _)]
            · rw [if_neg e]
          · obtain ⟨i', p', z1, z2, z3⟩ := hg.2 b hb
            exact ⟨i', p', z1, Or.inl (by omega), z3⟩)
        m 0 300 300 (nI g, 0, c) (nI g, 0, r) (by omega) (by omega) (by omega) ⟨g, hg, rfl, rfl⟩
      have E1 : b_X2_findNextMove_4 (nI g) (nI i) c = Sum.elim (fun v => some (.inl (.inl v))) (fun e => some (.inr (e.1, nI (i + 1), e.2))) y := by
        unfold b_X2_findNextMove_4
        rw [if_neg (show ¬ (12 : Int32) ≤ nI i from m_nle (N := 12) hi (by omega)), rd_b hR hi q1 q2, f1, Option.bind_some, nI_1]
      have E2 : b_X3_look_4 (nI g) (nI i) r = Sum.elim (fun v => some (.inl (.inl v))) (fun e => some (.inr (e.1, nI (i + 1), e.2))) y' := by
        unfold b_X3_look_4
        rw [if_neg (show ¬ (12 : Int32) ≤ nI i from m_nle (N := 12) hi (by omega)), f2, Option.bind_some, nI_1]
      rcases hK with ⟨g', hg', rfl, rfl⟩ | ⟨z, z', rfl, rfl, hz⟩
      · right
        exact ⟨_, _, E1, E2, g', hg', rfl, rfl⟩
      · left
        exact ⟨_, _, E1, E2, Or.inr ⟨z, z', rfl, rfl, hz⟩⟩)
    (by
      rintro a a' ⟨g, hg, rfl, rfl⟩
      refine ⟨.inr c, .inr r, ?_, ?_, Or.inl ⟨rfl, rfl⟩⟩
      · dsimp only
        unfold b_X2_findNextMove_4
        rw [if_pos (show (12 : Int32) ≤ nI 12 from Int32.le_refl _)]
      · dsimp only
        unfold b_X3_look_4
        rw [if_pos (show (12 : Int32) ≤ nI 12 from Int32.le_refl _)])
    12 0 300 300 (0, 0, c) (0, 0, r) rfl (by omega) (by omega) ⟨0, ⟨by omega, fun b hb => by omega⟩, rfl, rfl⟩
  unfold f_X2_findNextMove f_X3_look
  rw [e1, e2, Option.bind_some, Option.bind_some]
  rcases hJ with ⟨rfl, rfl⟩ | ⟨y, y', rfl, rfl, h⟩
  · exact ⟨_, _, rfl, rfl, Or.inl ⟨rfl, rfl⟩⟩
  · exact ⟨_, _, rfl, rfl, Or.inr h⟩
/-- states that differ in the plan alone -/
theorem S_RB {c c' : CS} {r r' : RS} (hB : RB c r) (hI : IV r) (h1 : SC c c') (h2 : SR r r') : RB c' r' ∧ IV r' := by
  obtain ⟨a1, a2, a3, a4, a5, a6⟩ := h1
  obtain ⟨b1, b2, b3, b4, b5, b6, b7, b8, b9, b10⟩ := h2
  constructor
  · unfold RB RW
    rw [a1, a2, a3, a4, a5, a6, b1, b2, b3, b4, b5, b6, b7, b8, b9, b10]
    exact hB
  · unfold IV LK
    rw [b1, b2, b3, b5, b6, b7]
    exact hI
theorem mm_plan {c : CS} {r : RS} (hB : RB c r) (hI : IV r) (x1 : Int32) : OKi (R_wr r) (f_X2_plan x1 c) (f_X3_plan x1 r) := by
  unfold f_X2_plan f_X3_plan
  have n10 : ¬ (1 : Int32) = 0 := by decide
  rcases pr_sz x1 (n := 4) (by omega) with ⟨w, hw, rfl, a1, a2⟩ | ⟨a1, a2⟩
  rotate_left
  · have b1 : f_X2_isBelow x1 4 = 0 := a1
    have b2 : f_X3_in x1.toInt64 (0 : Int64) (3 : Int64) = 0 := a2
    rw [if_pos b1, if_pos b2]; exact OK_s hB hI _
  have b1 : f_X2_isBelow (nI w) 4 = 1 := a1
  have b2 : f_X3_in (nI w).toInt64 (0 : Int64) (3 : Int64) = 1 := a2
  rw [b1, b2, if_neg n10, if_neg n10]
  obtain ⟨x, x', e1, e2, h⟩ := pr_look hB.1 hI.1
  rw [e1, e2, Option.bind_some, Option.bind_some]
  rcases h with ⟨rfl, rfl⟩ | ⟨h1, h2, ⟨z1, z2⟩ | ⟨z1, z2, i, p, t, hu, ht, hfr, m1, m2, m3, m4, m5, m6, m7⟩⟩
  · rw [if_neg (show ¬ ((-3 : Int32), c).1 = 1 from (by decide : ¬ (-3 : Int32) = 1)), if_neg (show ¬ (1 : Int32) ≤ ((0 : Int32), r).1 from (by decide : ¬ (1 : Int32) ≤ 0)), if_pos rfl]
    exact OK_s hB hI _
  · obtain ⟨hB', hI'⟩ := S_RB hB hI h1 h2
    rw [z1, z2, if_neg (show ¬ (-5 : Int32) = 1 by decide), if_neg (show ¬ (1 : Int32) ≤ (-5) by decide), if_neg (show ¬ (-5 : Int32) = 0 by decide)]
    exact OK_m hB' hI' (N := 0) ⟨0, Nat.le_refl _, by rw [h2.2.2.2.2.2.2.2.1, show nI 0 = (0 : Int32) from rfl, Int32.add_zero]⟩ (by omega) _
  · obtain ⟨hB', hI'⟩ := S_RB hB hI h1 h2
    rw [z1, z2, if_pos rfl, if_pos (show (1 : Int32) ≤ 1 by decide), m1, m2, m3, m4, m5, m6, m7, rd_p hB'.1 hu.1 hu.2.1, h2.2.2.1]
    by_cases c0 : nI w = 0
    · rw [if_pos c0, if_pos c0]; exact OK_m hB' hI' (N := 0) ⟨0, Nat.le_refl _, by rw [h2.2.2.2.2.2.2.2.1, show nI 0 = (0 : Int32) from rfl, Int32.add_zero]⟩ (by omega) _
    · rw [if_neg c0, if_neg c0]
      by_cases c1 : nI w = 1
      · rw [if_pos c1, if_pos c1]; exact OK_m hB' hI' (N := 0) ⟨0, Nat.le_refl _, by rw [h2.2.2.2.2.2.2.2.1, show nI 0 = (0 : Int32) from rfl, Int32.add_zero]⟩ (by omega) _
      · rw [if_neg c1, if_neg c1]
        by_cases c2 : nI w = 2
        · rw [if_pos c2, if_pos c2]; exact OK_m hB' hI' (N := 0) ⟨0, Nat.le_refl _, by rw [h2.2.2.2.2.2.2.2.1, show nI 0 = (0 : Int32) from rfl, Int32.add_zero]⟩ (by omega) _
        · rw [if_neg c2, if_neg c2]; exact OK_m hB' hI' (N := 0) ⟨0, Nat.le_refl _, by rw [h2.2.2.2.2.2.2.2.1, show nI 0 = (0 : Int32) from rfl, Int32.add_zero]⟩ (by omega) _
