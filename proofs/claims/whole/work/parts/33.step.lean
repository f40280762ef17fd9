/-! a move; step -/
theorem wr_dead (a : Int32) (v : Int64) {c : CS} (h : ¬ C_down c = 0) : f_X0_write a v c = c := by
  unfold f_X0_write
  rw [if_neg h]
theorem rW_dead (u : RS → RS) {r : RS} (h : ¬ R_down r = 0) : rW u r = r := by
  rw [rW_eq, if_neg h]
theorem wr_pl (a : Int32) (v : Int64) (c : CS) : C_pi (f_X0_write a v c) = C_pi c ∧ C_pp (f_X0_write a v c) = C_pp c ∧ C_pt (f_X0_write a v c) = C_pt c := by
  unfold f_X0_write
  by_cases h1 : C_down c = 0
  · rw [if_pos h1]
    by_cases h2 : a < 0
    · rw [if_pos h2]; exact ⟨rfl, rfl, rfl⟩
    · rw [if_neg h2]
      by_cases h3 : a < 244
      · rw [if_pos h3]
        by_cases h4 : C_left c = 0
        · rw [if_pos h4]; exact ⟨rfl, rfl, rfl⟩
        · rw [if_neg h4]
          by_cases h5 : C_left c = -3
          · rw [if_pos h5]; exact ⟨rfl, rfl, rfl⟩
          · rw [if_neg h5]; exact ⟨rfl, rfl, rfl⟩
      · rw [if_neg h3]; exact ⟨rfl, rfl, rfl⟩
  · rw [if_neg h1]; exact ⟨rfl, rfl, rfl⟩
/-- what a write leaves alone, whatever becomes of it -/
theorem rW_kp {u : RS → RS} {α : Type} (f : RS → α) (h : ∀ r, f (u r) = f r) (hF : ∀ r, f (rF r) = f r) (hG : ∀ r, f (rG r) = f r) (r : RS) : f (rW u r) = f r := by
  rw [rW_eq]
  by_cases h1 : R_down r = 0
  · rw [if_pos h1]
    by_cases h2 : R_left r = 0
    · rw [if_pos h2, hF]
    · rw [if_neg h2, h, hG]
  · rw [if_neg h1]
theorem ST_mv {w0 : Int32} {N : Nat} {K S P C : NF} {c : CS} {r : RS} (h : ST w0 N K S P C c r) (v : Int32) : ST w0 N K S P C (sC_mv v c) (sR_mv v r) := by
  obtain ⟨⟨h1, h2, h3, h4, h5, h6, h8⟩, hI, hd, hx⟩ := h
  exact ⟨⟨h1, h2, h3, rfl, h5, h6, h8⟩, hI, hd, hx⟩
theorem ST_mv0 {w0 : Int32} {N : Nat} {K S P C : NF} {c : CS} {r : RS} (h : ST w0 N K S P C c r) : ST w0 N K S P C c (sR_mv (R_mv r) r) := by
  obtain ⟨⟨h1, h2, h3, h4, h5, h6, h8⟩, hI, hd, hx⟩ := h
  exact ⟨⟨h1, h2, h3, h4, h5, h6, h8⟩, hI, hd, hx⟩
theorem kD_k (b k : Nat) (v : Int64) (r : RS) : R_kind (rW (uD b k v) r) = R_kind r := rW_kp (u := uD b k v) R_kind (fun _ => rfl) (fun _ => rfl) (fun _ => rfl) r
theorem kD_s (b k : Nat) (v : Int64) (r : RS) : R_size (rW (uD b k v) r) = R_size r := rW_kp (u := uD b k v) R_size (fun _ => rfl) (fun _ => rfl) (fun _ => rfl) r
theorem kD_p (b k : Nat) (v : Int64) (r : RS) : R_pl (rW (uD b k v) r) = R_pl r := rW_kp (u := uD b k v) R_pl (fun _ => rfl) (fun _ => rfl) (fun _ => rfl) r
theorem kR_k (k : Nat) (v : Int32) (r : RS) : R_kind (rW (uR k v) r) = R_kind r := rW_kp (u := uR k v) R_kind (fun _ => rfl) (fun _ => rfl) (fun _ => rfl) r
theorem kR_s (k : Nat) (v : Int32) (r : RS) : R_size (rW (uR k v) r) = R_size r := rW_kp (u := uR k v) R_size (fun _ => rfl) (fun _ => rfl) (fun _ => rfl) r
theorem kR_p (k : Nat) (v : Int32) (r : RS) : R_pl (rW (uR k v) r) = R_pl r := rW_kp (u := uR k v) R_pl (fun _ => rfl) (fun _ => rfl) (fun _ => rfl) r
/-- what a move has before it: as it stands in THE RECORD -/
def MW (K S P C : NF) (i p t b : Nat) : Prop := US K S i p ∧ t < 40 ∧ b < 40 ∧ P (8 * i + p) = nI b ∧ C 1 = nI i ∧ C 2 = nI p ∧ C 3 = nI t ∧ (∀ j q, US K S j q → P (8 * j + q) = nI t → j = i ∧ q = p)
theorem mv_copy {w0 : Int32} {N : Nat} {K S P C : NF} {c : CS} {r : RS} (h : ST w0 N K S P C c r) {i p t b : Nat} (hm : MW K S P C i p t b) (hk : R_kind r = K) (hs : R_size r = S) (hp : R_pl r = P) (hc0 : C 0 = 1) (hW : WI K S P C) :
    ∃ c2 ev r2, f_X2_copyMovedBlock c = some c2 ∧ itl (fun a : Int32 × RS => b_X3_move_105 (nI i) (nI p) (nI t) (nI b) a.1 a.2) 300 ((0 : Int32), r) = some ev ∧ f_X3_setRecord (0 : Int32) (2 : Int32) ev = some r2 ∧ ST w0 (N + 4) K S P (upd C 0 2) c2 r2 ∧ R_kind r2 = K ∧ R_size r2 = S ∧ R_pl r2 = P := by
  obtain ⟨hu, ht, hb, hpb, c1, c2, c3, hf⟩ := hm
  have hi := hu.1
  have hp8 := hu.2.1
  by_cases h0 : R_down r = 0
  · obtain ⟨x1, x2, x3, x4⟩ := h.2.2.2 h0
    have hR := h.1.1
    have q1 : f_X2_recorded (1 : Int32) c = nI i := by
      have := rd_r hR (k := 1) (by omega)
      rw [x4, c1] at this; exact this
    have q2 : f_X2_recorded (2 : Int32) c = nI p := by
      have := rd_r hR (k := 2) (by omega)
      rw [x4, c2] at this; exact this
    have q3 : f_X2_recorded (3 : Int32) c = nI t := by
      have := rd_r hR (k := 3) (by omega)
      rw [x4, c3] at this; exact this
    have q4 : f_X2_placeOf (nI i) (nI p) c = nI b := by rw [rd_p hR hi hp8, x3, hpb]
    obtain ⟨y, y', l1, l2, t2, m1, m2, m3⟩ := itl_two (b := fun a : Int32 × CS => b_X2_copyMovedBlock_23 (nI b) (nI t) a.1 a.2) (b' := fun a : Int32 × RS => b_X3_move_105 (nI i) (nI p) (nI t) (nI b) a.1 a.2)
      (fun k a a' => a.1 = nI k ∧ a'.1 = nI k ∧ ST w0 (N + k) K S P C a.2 a'.2 ∧ R_kind a'.2 = K ∧ R_size a'.2 = S ∧ R_pl a'.2 = P)
      (fun y y' => ST w0 (N + 3) K S P C y y' ∧ R_kind y' = K ∧ R_size y' = S ∧ R_pl y' = P) 3 (by
        rintro k ⟨a, ac⟩ ⟨a', ar⟩ hk3 ⟨ha, ha', hs', z1, z2, z3⟩
        dsimp only at ha ha' hs' z1 z2 z3
        subst ha; subst ha'
        have hn3 : ¬ (3 : Int32) ≤ nI k := m_nle (N := 3) hk3 (by omega)
        right
        refine ⟨(nI (k + 1), f_X0_write (f_X2_dataAt (nI t) (nI k)) (R_ws ar (3 * b + k)) ac), (nI (k + 1), rW (uD t k (R_ws ar (3 * b + k))) ar), ?_, ?_, rfl, rfl, ST_D hs' ht hk3 _ hW, ?_, ?_, ?_⟩
        · dsimp only
          unfold b_X2_copyMovedBlock_23
          rw [if_neg hn3, rd_d hs'.1.1 hb hk3, nI_1]
        · dsimp only
          unfold b_X3_move_105
          rw [if_neg hn3, m_ix3, m_chk (show 3 * b + k < 120 by omega) (by omega), m_cl (by omega), w_D ar _ ht hk3, Option.bind_some, nI_1]
        · exact (kD_k _ _ _ ar).trans z1
        · exact (kD_s _ _ _ ar).trans z2
        · exact (kD_p _ _ _ ar).trans z3)
      (by
        rintro ⟨a, ac⟩ ⟨a', ar⟩ ⟨ha, ha', hs', z1, z2, z3⟩
        dsimp only at ha ha' hs' z1 z2 z3
        subst ha; subst ha'
        refine ⟨ac, ar, ?_, ?_, hs', z1, z2, z3⟩
        · dsimp only
          unfold b_X2_copyMovedBlock_23
          rw [if_pos (show (3 : Int32) ≤ nI 3 from Int32.le_refl _)]
        · dsimp only
          unfold b_X3_move_105
          rw [if_pos (show (3 : Int32) ≤ nI 3 from Int32.le_refl _)])
      3 0 300 300 ((0 : Int32), c) ((0 : Int32), r) rfl (by omega) (by omega) ⟨rfl, rfl, h, hk, hs, hp⟩
    refine ⟨f_X0_write (f_X2_recordAt (nI 0)) (2 : Int32).toInt64 y, y', rW (uR 0 2) y', ?_, l2, w_R y' 2 (show 0 < 4 by omega), ST_R t2 (show 0 < 4 by omega) 2 (WI_R2 hW (Or.inr rfl) hu ht c1 c2 c3 hf), ?_, ?_, ?_⟩
    · unfold f_X2_copyMovedBlock
      rw [q1, q2, q3, q4, l1, Option.bind_some]
      rfl
    · exact (kR_k _ _ y').trans m1
    · exact (kR_s _ _ y').trans m2
    · exact (kR_p _ _ y').trans m3
  · have hcf : ¬ C_down c = 0 := fun q => h0 (h.1.2.2.2.2.2.1.symm.trans q)
    refine ⟨c, r, r, ?_, ?_, ?_, ST_le (N := N) ⟨h.1, h.2.1, h.2.2.1, fun q => absurd q h0⟩ (by omega), hk, hs, hp⟩
    · unfold f_X2_copyMovedBlock
      have hl := itl_run (b := fun a : Int32 × CS => b_X2_copyMovedBlock_23 (f_X2_placeOf (f_X2_recorded (1 : Int32) c) (f_X2_recorded (2 : Int32) c) c) (f_X2_recorded (3 : Int32) c) a.1 a.2) (fun k => (nI k, c)) c 3 (by
          intro k hk3
          dsimp only
          unfold b_X2_copyMovedBlock_23
          rw [if_neg (show ¬ (3 : Int32) ≤ nI k from m_nle (N := 3) hk3 (by omega)), wr_dead _ _ hcf, nI_1])
        (by
          dsimp only
          unfold b_X2_copyMovedBlock_23
          rw [if_pos (show (3 : Int32) ≤ nI 3 from Int32.le_refl _)]) 3 0 300 rfl (by omega)
      have hl2 : itl (fun a : Int32 × CS => b_X2_copyMovedBlock_23 (f_X2_placeOf (f_X2_recorded (1 : Int32) c) (f_X2_recorded (2 : Int32) c) c) (f_X2_recorded (3 : Int32) c) a.1 a.2) 300 ((0 : Int32), c) = some c := hl
      rw [hl2, Option.bind_some, wr_dead _ _ hcf]
    · have hl := itl_run (b := fun a : Int32 × RS => b_X3_move_105 (nI i) (nI p) (nI t) (nI b) a.1 a.2) (fun k => (nI k, r)) r 3 (by
          intro k hk3
          dsimp only
          unfold b_X3_move_105
          rw [if_neg (show ¬ (3 : Int32) ≤ nI k from m_nle (N := 3) hk3 (by omega)), m_ix3, m_chk (show 3 * b + k < 120 by omega) (by omega), w_D r _ ht hk3, Option.bind_some, rW_dead _ h0, nI_1])
        (by
          dsimp only
          unfold b_X3_move_105
          rw [if_pos (show (3 : Int32) ≤ nI 3 from Int32.le_refl _)]) 3 0 300 rfl (by omega)
      exact hl
    · have := w_R r 2 (show 0 < 4 by omega)
      rw [rW_dead _ h0] at this
      exact this
theorem mv_link {w0 : Int32} {N : Nat} {K S P C : NF} {c : CS} {r : RS} (h : ST w0 N K S P C c r) {i p t b : Nat} (hm : MW K S P C i p t b) (hc0 : C 0 = 1 ∨ C 0 = 2) (hW : WI K S P C) :
    ∃ a b', f_X3_setPlace (nI i) (nI p) (nI t) r = some a ∧ f_X3_setRecord (0 : Int32) (0 : Int32) a = some b' ∧ ST w0 (N + 2) K S (upd P (8 * i + p) (nI t)) (upd C 0 0) (f_X2_linkMovedBlock c) (if R_down b' = 0 then sR_mv (R_mv b' + 1) b' else sR_mv (R_mv b' + 0) b') := by
  obtain ⟨hu, ht, hb, hpb, c1, c2, c3, hf⟩ := hm
  have hi := hu.1
  have hp8 := hu.2.1
  refine ⟨_, _, w_P r (nI t) hi hp8, w_R _ 0 (show 0 < 4 by omega), ?_⟩
  by_cases h0 : R_down r = 0
  · obtain ⟨x1, x2, x3, x4⟩ := h.2.2.2 h0
    have hR := h.1.1
    have q1 : f_X2_recorded (1 : Int32) c = nI i := by
      have := rd_r hR (k := 1) (by omega)
      rw [x4, c1] at this; exact this
    have q2 : f_X2_recorded (2 : Int32) c = nI p := by
      have := rd_r hR (k := 2) (by omega)
      rw [x4, c2] at this; exact this
    have q3 : f_X2_recorded (3 : Int32) c = nI t := by
      have := rd_r hR (k := 3) (by omega)
      rw [x4, c3] at this; exact this
    obtain ⟨v1, v2⟩ := WI_M hW hu ht (Or.inr hc0) c1 c2 c3 hf
    have t1 := ST_P h hi hp8 (nI t) v1
    have t2 := ST_R t1 (show 0 < 4 by omega) 0 (WI_R1 v1)
    have e : f_X2_linkMovedBlock c = if R_down (rW (uR 0 0) (rW (uP i p (nI t)) r)) = 0 then sC_mv (C_mv (f_X0_write (f_X2_recordAt (nI 0)) (0 : Int32).toInt64 (f_X0_write (f_X2_placeAt (nI i) (nI p)) (nI t).toInt64 c)) + 1) (f_X0_write (f_X2_recordAt (nI 0)) (0 : Int32).toInt64 (f_X0_write (f_X2_placeAt (nI i) (nI p)) (nI t).toInt64 c)) else f_X0_write (f_X2_recordAt (nI 0)) (0 : Int32).toInt64 (f_X0_write (f_X2_placeAt (nI i) (nI p)) (nI t).toInt64 c) := by
      have hfl := t2.1.2.2.2.2.2.1
      unfold f_X2_linkMovedBlock
      rw [q1, q2, q3, ← hfl]
      rfl
    rw [e]
    have hmv := t2.1.2.2.2.1
    by_cases h2 : R_down (rW (uR 0 0) (rW (uP i p (nI t)) r)) = 0
    · rw [if_pos h2, if_pos h2, hmv]
      exact ST_mv t2 _
    · rw [if_neg h2, if_neg h2, Int32.add_zero]
      exact ST_mv0 t2
  · have hcf : ¬ C_down c = 0 := fun q => h0 (h.1.2.2.2.2.2.1.symm.trans q)
    rw [rW_dead _ h0, rW_dead _ h0, if_neg h0, Int32.add_zero]
    have e : f_X2_linkMovedBlock c = c := by
      unfold f_X2_linkMovedBlock
      rw [wr_dead _ _ hcf, wr_dead _ _ hcf, if_neg hcf]
    rw [e]
    exact ST_mv0 (ST_le (N := N) ⟨h.1, h.2.1, h.2.2.1, fun q => absurd q h0⟩ (by omega))
theorem mm_step {c : CS} {r : RS} (hB : RB c r) (hI : IV r) : OKi (R_wr r) (f_X2_step c) (f_X3_step r) := by
  unfold f_X2_step f_X3_step
  by_cases h0 : R_down r = 0
  rotate_left
  · rw [if_neg (fun e => h0 (hB.2.2.2.2.2.symm.trans e)), if_neg h0]; exact OK_s hB hI _
  rw [if_pos (hB.2.2.2.2.2.trans h0), if_pos h0]
  obtain ⟨⟨xv, xc⟩, ⟨xv', xr⟩, e1, e2, h⟩ := pr_look hB.1 hI.1
  rw [e1, e2, Option.bind_some, Option.bind_some]
  dsimp only
  rcases h with ⟨z1, z2⟩ | ⟨h1, h2, ⟨z1, z2⟩ | ⟨z1, z2, i, p, t, hu, ht, hfr, m1, m2, m3, m4, m5, m6, m7⟩⟩
  · cases z1; cases z2
    rw [if_pos rfl, if_neg (show ¬ (1 : Int32) ≤ 0 by decide)]
    exact OK_s hB hI _
  · dsimp only at h1 h2 z1 z2
    subst z1; subst z2
    obtain ⟨hB', hI'⟩ := S_RB hB hI h1 h2
    rw [if_neg (show ¬ (-5 : Int32) = -3 by decide), if_pos rfl, if_neg (show ¬ (1 : Int32) ≤ (-5) by decide)]
    exact OK_m hB' hI' (N := 0) ⟨0, Nat.le_refl _, by rw [h2.2.2.2.2.2.2.2.1, show nI 0 = (0 : Int32) from rfl, Int32.add_zero]⟩ (by omega) _
  · dsimp only at h1 h2 z1 z2 m1 m2 m3 m4 m5 m6 m7
    subst z1; subst z2
    obtain ⟨hB', hI'⟩ := S_RB hB hI h1 h2
    have h0' : R_down xr = 0 := h2.2.2.2.2.2.1.trans h0
    obtain ⟨w1, w2, w3⟩ := hI'.2.2.2 h0'
    rw [if_neg (show ¬ (1 : Int32) = -3 by decide), if_neg (show ¬ (1 : Int32) = -5 by decide), if_pos (show (1 : Int32) ≤ 1 by decide)]
    rw [(wr_pl _ _ _).2.2, (wr_pl _ _ _).2.2, (wr_pl _ _ _).2.1]
    have m1' : C_pi xc = nI i := m1
    have m2' : C_pp xc = nI p := m2
    have m3' : C_pt xc = nI t := m3
    rw [m1', m2', m3']
    unfold f_X3_move
    rw [if_pos rfl, m4, m5, m6]
    have hu' : US (R_kind xr) (R_size xr) i p := by rw [h2.1, h2.2.1]; exact hu
    have hfr' : ∀ j q, US (R_kind xr) (R_size xr) j q → ¬ R_pl xr (8 * j + q) = nI t := by rw [h2.1, h2.2.1, h2.2.2.1]; exact hfr
    have hi := hu.1
    have hp := hu.2.1
    obtain ⟨b, hb, hpb⟩ := hI'.1.2.2.2.2.1 i p hu'
    have r1 : f_X3_setRecord (1 : Int32) (nI i) xr = some (rW (uR 1 (nI i)) xr) := w_R xr (nI i) (show 1 < 4 by omega)
    have r2 : f_X3_setRecord (2 : Int32) (nI p) (rW (uR 1 (nI i)) xr) = some (rW (uR 2 (nI p)) (rW (uR 1 (nI i)) xr)) := w_R _ (nI p) (show 2 < 4 by omega)
    have r3 : f_X3_setRecord (3 : Int32) (nI t) (rW (uR 2 (nI p)) (rW (uR 1 (nI i)) xr)) = some (rW (uR 3 (nI t)) (rW (uR 2 (nI p)) (rW (uR 1 (nI i)) xr))) := w_R _ (nI t) (show 3 < 4 by omega)
    have r4 : f_X3_setRecord (0 : Int32) (1 : Int32) (rW (uR 3 (nI t)) (rW (uR 2 (nI p)) (rW (uR 1 (nI i)) xr))) = some (rW (uR 0 1) (rW (uR 3 (nI t)) (rW (uR 2 (nI p)) (rW (uR 1 (nI i)) xr)))) := w_R _ 1 (show 0 < 4 by omega)
    rw [r1, Option.bind_some, r2, Option.bind_some, r3, Option.bind_some, r4, Option.bind_some, if_neg (show ¬ (2 : Int32) ≤ 0 by decide), m_ix8, m_chk (show 8 * i + p < 96 by omega) (by omega), m_cl (show 8 * i + p < 2 ^ 31 by omega)]
    have g1 : WI (R_kind xr) (R_size xr) (R_pl xr) (upd (R_rec xr) 1 (nI i)) := WI_R0 hI'.1 (by omega) w1
    have g2 : WI (R_kind xr) (R_size xr) (R_pl xr) (upd (upd (R_rec xr) 1 (nI i)) 2 (nI p)) := WI_R0 g1 (by omega) (by rw [pk_un (by omega)]; exact w1)
    have g3 : WI (R_kind xr) (R_size xr) (R_pl xr) (upd (upd (upd (R_rec xr) 1 (nI i)) 2 (nI p)) 3 (nI t)) := WI_R0 g2 (by omega) (by rw [pk_un (by omega), pk_un (by omega)]; exact w1)
    have d1 : upd (upd (upd (R_rec xr) 1 (nI i)) 2 (nI p)) 3 (nI t) 1 = nI i := by rw [pk_un (by omega), pk_un (by omega), pk_us]
    have d2 : upd (upd (upd (R_rec xr) 1 (nI i)) 2 (nI p)) 3 (nI t) 2 = nI p := by rw [pk_un (by omega), pk_us]
    have d3 : upd (upd (upd (R_rec xr) 1 (nI i)) 2 (nI p)) 3 (nI t) 3 = nI t := pk_us
    have hf : ∀ j q, US (R_kind xr) (R_size xr) j q → R_pl xr (8 * j + q) = nI t → j = i ∧ q = p := fun j q y1 y2 => absurd y2 (hfr' j q y1)
    have g4 : WI (R_kind xr) (R_size xr) (R_pl xr) (upd (upd (upd (upd (R_rec xr) 1 (nI i)) 2 (nI p)) 3 (nI t)) 0 1) := WI_R2 g3 (Or.inl rfl) hu' ht d1 d2 d3 hf
    have t0 := ST_0 hB' hI' h0'
    have t1 := ST_R t0 (show 1 < 4 by omega) (nI i) g1
    have t2 := ST_R t1 (show 2 < 4 by omega) (nI p) g2
    have t3 := ST_R t2 (show 3 < 4 by omega) (nI t) g3
    have t4 := ST_R t3 (show 0 < 4 by omega) 1 g4
    have kK : R_kind (rW (uR 0 1) (rW (uR 3 (nI t)) (rW (uR 2 (nI p)) (rW (uR 1 (nI i)) xr)))) = R_kind xr := by
      rw [kR_k, kR_k, kR_k, kR_k]
    have kS : R_size (rW (uR 0 1) (rW (uR 3 (nI t)) (rW (uR 2 (nI p)) (rW (uR 1 (nI i)) xr)))) = R_size xr := by
      rw [kR_s, kR_s, kR_s, kR_s]
    have kP : R_pl (rW (uR 0 1) (rW (uR 3 (nI t)) (rW (uR 2 (nI p)) (rW (uR 1 (nI i)) xr)))) = R_pl xr := by
      rw [kR_p, kR_p, kR_p, kR_p]
    rw [kP, hpb]
    have hm4 : MW (R_kind xr) (R_size xr) (R_pl xr) (upd (upd (upd (upd (R_rec xr) 1 (nI i)) 2 (nI p)) 3 (nI t)) 0 1) i p t b := ⟨hu', ht, hb, hpb, by rw [pk_un (by omega)]; exact d1, by rw [pk_un (by omega)]; exact d2, by rw [pk_un (by omega)]; exact d3, hf⟩
    obtain ⟨cc, ev, rr, n1, n2, n3, n4, n5, n6, n7⟩ := mv_copy t4 hm4 kK kS kP pk_us g4
    have n1' : f_X2_copyMovedBlock (f_X0_write (f_X2_recordAt (0 : Int32)) (1 : Int64) (f_X0_write (f_X2_recordAt (3 : Int32)) (nI t).toInt64 (f_X0_write (f_X2_recordAt (2 : Int32)) (nI p).toInt64 (f_X0_write (f_X2_recordAt (1 : Int32)) (nI i).toInt64 xc)))) = some cc := n1
    have g5 : WI (R_kind xr) (R_size xr) (R_pl xr) (upd (upd (upd (upd (upd (R_rec xr) 1 (nI i)) 2 (nI p)) 3 (nI t)) 0 1) 0 2) := WI_R2 g4 (Or.inr rfl) hu' ht hm4.2.2.2.2.1 hm4.2.2.2.2.2.1 hm4.2.2.2.2.2.2.1 hf
    have hm5 : MW (R_kind xr) (R_size xr) (R_pl xr) (upd (upd (upd (upd (upd (R_rec xr) 1 (nI i)) 2 (nI p)) 3 (nI t)) 0 1) 0 2) i p t b := ⟨hu', ht, hb, hpb, by rw [pk_un (by omega)]; exact hm4.2.2.2.2.1, by rw [pk_un (by omega)]; exact hm4.2.2.2.2.2.1, by rw [pk_un (by omega)]; exact hm4.2.2.2.2.2.2.1, hf⟩
    obtain ⟨a, b', o1, o2, o3⟩ := mv_link n4 hm5 (Or.inr pk_us) g5
    rw [n1', Option.bind_some, n2, Option.bind_some, n3, Option.bind_some, o1, Option.bind_some, o2, Option.bind_some]
    have hfin : (if R_down b' = 0 then some (sR_mv (R_mv b' + 1) b') else some (sR_mv (R_mv b' + 0) b')) = some (if R_down b' = 0 then sR_mv (R_mv b' + 1) b' else sR_mv (R_mv b' + 0) b') := by split <;> rfl
    rw [hfin, Option.bind_some]
    rw [← h2.2.2.2.2.2.2.2.1]
    refine OK_end o3 ?_ 1 (by omega)
    have hT : ∀ d' p' j, ET (R_kind xr) (upd (R_pl xr) (8 * i + p) (nI t)) d' p' j → ET (R_kind xr) (R_pl xr) d' p' j := by
      rintro d' p' j ⟨y1, y2, y3, y4, n, y5, y6, y7⟩
      have hne : 8 * d' + p' ≠ 8 * i + p := fun e => by
        have e1 : d' = i := by omega
        rw [e1, hu'.2.2.1] at y4
        exact absurd y4 (by decide)
      rw [pk_un hne] at y7
      exact ⟨y1, y2, y3, y4, n, y5, y6, y7⟩
    exact ⟨pk_us, fun d' p' j h => w2 d' p' j (hT d' p' j h), fun d1 p1 d2 p2 j h1 h2 => w3 d1 p1 d2 p2 j (hT _ _ _ h1) (hT _ _ _ h2)⟩
