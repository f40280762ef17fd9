/-! a round of a restart -/
/-- in a restart -/
def ZZ (c : CS) (r : RS) : Prop := RA c r ∧ WI (R_kind r) (R_size r) (R_pl r) (R_rec r) ∧ (R_down r = 0 ∨ R_down r = 1) ∧ (R_down r = 0 → R_rec r 0 = 0)
theorem ZZ_met {c : CS} {r : RS} (h : ZZ c r) (v : Int32) : ZZ (sC_met v c) r := h
theorem ZZ_P {c : CS} {r : RS} (h : ZZ c r) {e p : Nat} (he : e < 12) (hp : p < 8) (hk : R_kind r e = 1) : ZZ (f_X0_write (f_X2_placeAt (nI e) (nI p)) (0 : Int64) c) (rW (uP e p 0) r) := by
  obtain ⟨hA, hI, hd, hx⟩ := h
  by_cases h0 : R_down r = 0
  · have t0 : ST (R_wr r) 0 (R_kind r) (R_size r) (R_pl r) (R_rec r) c r := ⟨hA, hI, ⟨hd, 0, Nat.le_refl _, (Int32.add_zero _).symm⟩, fun _ => ⟨rfl, rfl, rfl, rfl⟩⟩
    have t1 := ST_P t0 he hp 0 (WI_P hI hp (fun q => by
      have := q.2.2.1
      rw [hk] at this
      exact absurd this (by decide)) (fun _ => Or.inl rfl) (hx h0))
    refine ⟨t1.1, t1.2.1, t1.2.2.1.1, fun q => ?_⟩
    rw [(t1.2.2.2 q).2.2.2]
    exact hx h0
  · have hcf : ¬ C_down c = 0 := fun q => h0 (hA.2.2.2.2.2.1.symm.trans q)
    rw [wr_dead _ _ hcf, rW_dead _ h0]
    exact ⟨hA, hI, hd, hx⟩
theorem ZZ_K {c : CS} {r : RS} (h : ZZ c r) {i : Nat} (hi1 : 1 ≤ i) (hi : i < 12) : ZZ (f_X0_write (f_X2_inodeAt (nI i) (0 : Int32)) (0 : Int64) c) (rW (uK i 0) r) := by
  obtain ⟨hA, hI, hd, hx⟩ := h
  by_cases h0 : R_down r = 0
  · have t0 : ST (R_wr r) 0 (R_kind r) (R_size r) (R_pl r) (R_rec r) c r := ⟨hA, hI, ⟨hd, 0, Nat.le_refl _, (Int32.add_zero _).symm⟩, fun _ => ⟨rfl, rfl, rfl, rfl⟩⟩
    have t1 := ST_K t0 hi 0 (WI_K0 hI hi1 (hx h0))
    refine ⟨t1.1, t1.2.1, t1.2.2.1.1, fun q => ?_⟩
    rw [(t1.2.2.2 q).2.2.2]
    exact hx h0
  · have hcf : ¬ C_down c = 0 := fun q => h0 (hA.2.2.2.2.2.1.symm.trans q)
    rw [wr_dead _ _ hcf, rW_dead _ h0]
    exact ⟨hA, hI, hd, hx⟩
/-- the entry at k is a wrong one -/
def cnd (r : RS) (k : Nat) : Prop := ∃ j, ET (R_kind r) (R_pl r) (k / 8) (k % 8) j ∧ (R_kind r j = 0 ∨ SD r k j)
noncomputable def R2 (k : Nat) (r : RS) : RS := @ite RS (cnd r k) (Classical.propDecidable _) (rW (uP (k / 8) (k % 8) 0) r) r
theorem R2_t {k : Nat} {r : RS} (h : cnd r k) : R2 k r = rW (uP (k / 8) (k % 8) 0) r := by unfold R2; rw [if_pos h]
theorem R2_f {k : Nat} {r : RS} (h : ¬ cnd r k) : R2 k r = r := by unfold R2; rw [if_neg h]
theorem R2_dead {k : Nat} {r : RS} (h : ¬ R_down r = 0) : R2 k r = r := by
  by_cases e : cnd r k
  · rw [R2_t e, rW_dead _ h]
  · exact R2_f e
noncomputable def F2 (r : RS) : Nat → RS
  | 0 => r
  | k + 1 => R2 k (F2 r k)
theorem kP_k (i p : Nat) (v : Int32) (r : RS) : R_kind (rW (uP i p v) r) = R_kind r := rW_kp (u := uP i p v) R_kind (fun _ => rfl) (fun _ => rfl) (fun _ => rfl) r
theorem F2_k (r : RS) : ∀ k, R_kind (F2 r k) = R_kind r
  | 0 => rfl
  | k + 1 => by
    show R_kind (R2 k (F2 r k)) = _
    by_cases e : cnd (F2 r k) k
    · rw [R2_t e, kP_k, F2_k r k]
    · rw [R2_f e, F2_k r k]
theorem F2_dead (r : RS) (k : Nat) (h : ¬ R_down (F2 r k) = 0) : ∀ m, F2 r (k + m) = F2 r k
  | 0 => rfl
  | m + 1 => by
    show R2 (k + m) (F2 r (k + m)) = _
    rw [F2_dead r k h m, R2_dead h]
/-- one step of the class among the entries -/
theorem st2 {c : CS} {r : RS} {e p : Nat} (he : e < 12) (hp : p < 8) (hk : R_kind r e = 1) (hZ : ZZ c r) (hM : R_down r = 0 → ∀ j, j < 12 → (bt (C_met c) j = true ↔ SD r (8 * e + p) j)) :
    ∃ c', b_X2_clearWrongEntriesOf_2 (nI e) (nI p) c = some (.inr (nI (p + 1), c')) ∧ ZZ c' (R2 (8 * e + p) r) ∧ (R_down (R2 (8 * e + p) r) = 0 → ∀ j, j < 12 → (bt (C_met c') j = true ↔ SD (R2 (8 * e + p) r) (8 * e + p + 1) j)) := by
  have hW := hZ.2.1
  have hR := hZ.1.1
  have hdv : (8 * e + p) / 8 = e := by omega
  have hmd : (8 * e + p) % 8 = p := by omega
  have hn8 : ¬ (8 : Int32) ≤ nI p := m_nle (N := 8) hp (by omega)
  have sdn : ∀ (r' : RS) (j : Nat), (¬ ET (R_kind r') (R_pl r') e p j) → (SD r' (8 * e + p + 1) j ↔ SD r' (8 * e + p) j) := by
    intro r' j hn
    constructor
    · rintro ⟨d', p', z1, z2⟩
      by_cases q : 8 * d' + p' = 8 * e + p
      · have hp' := z1.2.1
        have : d' = e := by omega
        have : p' = p := by omega
        subst d'; subst p'
        exact absurd z1 hn
      · exact ⟨d', p', z1, by omega⟩
    · rintro ⟨d', p', z1, z2⟩
      exact ⟨d', p', z1, by omega⟩
  rcases ET_read hW he hp hk with ⟨z1, z2, z3⟩ | ⟨j, j1, j2, y3, y4, y5, y6, y7⟩
  · have hc : ¬ cnd r (8 * e + p) := by
      rintro ⟨j, h1, _⟩
      rw [hdv, hmd] at h1
      exact z3 j h1
    refine ⟨c, ?_, ?_, ?_⟩
    · unfold b_X2_clearWrongEntriesOf_2
      rw [if_neg hn8, rd_p hR he hp, if_pos z1, nI_1]
    · rw [R2_f hc]; exact hZ
    · rw [R2_f hc]
      intro h0 j hj
      rw [hM h0 j hj, sdn r j (z3 j)]
  · have E : b_X2_clearWrongEntriesOf_2 (nI e) (nI p) c = if (f_X2_meet (nI j) c).1 = 0 then some (.inr (nI (p + 1), f_X0_write (f_X2_placeAt (nI e) (nI p)) (0 : Int64) (f_X2_meet (nI j) c).2)) else some (.inr (nI (p + 1), (f_X2_meet (nI j) c).2)) := by
      unfold b_X2_clearWrongEntriesOf_2 f_X2_inodeOfEntry
      rw [if_neg hn8, rd_p hR he hp, if_neg y4, y6, nI_1]
    -- the entry goes
    have clear : f_X2_meet (nI j) c = (0, c) → (R_down r = 0 → cnd r (8 * e + p)) → ∃ c', b_X2_clearWrongEntriesOf_2 (nI e) (nI p) c = some (.inr (nI (p + 1), c')) ∧ ZZ c' (R2 (8 * e + p) r) ∧ (R_down (R2 (8 * e + p) r) = 0 → ∀ j, j < 12 → (bt (C_met c') j = true ↔ SD (R2 (8 * e + p) r) (8 * e + p + 1) j)) := by
      intro hm hc
      refine ⟨f_X0_write (f_X2_placeAt (nI e) (nI p)) (0 : Int64) c, ?_, ?_, ?_⟩
      · rw [E, hm, if_pos rfl]
      · have hz := ZZ_P hZ he hp hk
        by_cases h0 : R_down r = 0
        · rw [R2_t (hc h0), hdv, hmd]; exact hz
        · rw [R2_dead h0]
          rw [rW_dead _ h0] at hz
          exact hz
      · by_cases h0 : R_down r = 0
        · rw [R2_t (hc h0), hdv, hmd]
          intro h1 j' hj'
          have hmet : C_met (f_X0_write (f_X2_placeAt (nI e) (nI p)) (0 : Int64) c) = C_met c := by
            rw [at_p, cW_eq c 0 (by omega)]
            split
            · split <;> rfl
            · rfl
          rw [rW_eq, if_pos h0] at h1 ⊢
          by_cases h2 : R_left r = 0
          · rw [if_pos h2] at h1
            exact absurd (show (1 : Int32) = 0 from h1) (by decide)
          · rw [if_neg h2] at h1 ⊢
            have ek : R_kind (uP e p 0 (rG r)) = R_kind r := rfl
            have ep : R_pl (uP e p 0 (rG r)) = upd (R_pl r) (8 * e + p) 0 := rfl
            have hno : ¬ ET (R_kind (uP e p 0 (rG r))) (R_pl (uP e p 0 (rG r))) e p j' := by
              rw [ek, ep]
              rintro ⟨_, _, v3, _, n, v4, v5, v6⟩
              rw [pk_us] at v6
              exact nI_ne0 (by omega) (by omega) v6.symm
            rw [hmet, hM h0 j' hj', sdn _ _ hno]
            unfold SD
            rw [ek, ep]
            constructor
            · rintro ⟨d', p', ⟨v1, v2, v3, v4, n, v5, v6, v7⟩, v8⟩
              exact ⟨d', p', ⟨v1, v2, v3, v4, n, v5, v6, by rw [pk_un (by omega)]; exact v7⟩, v8⟩
            · rintro ⟨d', p', ⟨v1, v2, v3, v4, n, v5, v6, v7⟩, v8⟩
              rw [pk_un (by omega)] at v7
              exact ⟨d', p', ⟨v1, v2, v3, v4, n, v5, v6, v7⟩, v8⟩
        · intro h1
          rw [R2_dead h0] at h1
          exact absurd h1 h0
    by_cases hkj : R_kind r j = 0
    · refine clear ?_ (fun _ => ⟨j, by rw [hdv, hmd]; exact y3, Or.inl hkj⟩)
      unfold f_X2_meet
      rw [rd_k hR j2, if_pos hkj]
    · by_cases hbt : bt (C_met c) j = true
      · refine clear ?_ (fun h0 => ⟨j, by rw [hdv, hmd]; exact y3, Or.inr ((hM h0 j j2).mp hbt)⟩)
        unfold f_X2_meet
        rw [rd_k hR j2, if_neg hkj, if_pos ((bt_t (C_met c) (by omega)).1.mpr hbt)]
      · have hm : f_X2_meet (nI j) c = (1, sC_met (C_met c ||| ((1 : Int32) <<< (nI j &&& 31))) c) := by
          unfold f_X2_meet
          rw [rd_k hR j2, if_neg hkj, if_neg (fun q => hbt ((bt_t (C_met c) (by omega)).1.mp q))]
        have hc : R_down r = 0 → ¬ cnd r (8 * e + p) := by
          rintro h0 ⟨j', h1, h2⟩
          rw [hdv, hmd] at h1
          have := y7 j' h1
          subst this
          rcases h2 with h2 | h2
          · exact hkj h2
          · exact hbt ((hM h0 j' j2).mpr h2)
        have hR2 : R2 (8 * e + p) r = r := by
          by_cases h0 : R_down r = 0
          · exact R2_f (hc h0)
          · exact R2_dead h0
        refine ⟨_, by rw [E, hm, if_neg (show ¬ (1 : Int32) = 0 by decide)], ?_, ?_⟩
        · rw [hR2]; exact ZZ_met hZ _
        · rw [hR2]
          intro h0 j' hj'
          show bt (C_met c ||| ((1 : Int32) <<< (nI j &&& 31))) j' = true ↔ _
          rw [bt_set _ (by omega) (by omega), Bool.or_eq_true, hM h0 j' hj', decide_eq_true_eq]
          constructor
          · rintro (⟨d', p', v1, v2⟩ | v)
            · exact ⟨d', p', v1, by omega⟩
            · subst v
              exact ⟨e, p, y3, by omega⟩
          · rintro ⟨d', p', v1, v2⟩
            by_cases q : 8 * d' + p' = 8 * e + p
            · have hp' := v1.2.1
              have : d' = e := by omega
              have : p' = p := by omega
              subst d'; subst p'
              exact Or.inr (y7 j' v1)
            · exact Or.inl ⟨d', p', v1, by omega⟩
/-- both sides among the entries -/
theorem pr_p2 {c : CS} {r : RS} (hZ : ZZ c r) (y1 y2 : Int32) : ∃ c', f_X2_clearWrongEntries c = some c' ∧ itl (fun a : Int32 × RS => b_X3_restart_53 y1 y2 a.1 a.2) 300 ((0 : Int32), r) = some (F2 r 96) ∧ ZZ c' (F2 r 96) := by
  -- the class
  obtain ⟨x, h1, hx1, hx2⟩ := itl_ix (b := fun a : Int32 × CS => b_X2_clearWrongEntries_7 a.1 a.2) (fun e a => a.1 = nI e ∧ ZZ a.2 (F2 r (8 * e)) ∧ (R_down (F2 r (8 * e)) = 0 → ∀ j, j < 12 → (bt (C_met a.2) j = true ↔ SD (F2 r (8 * e)) (8 * e) j)))
    (fun x => ZZ x (F2 r 96) ∧ (R_down (F2 r 96) = 0 → ∀ j, j < 12 → (bt (C_met x) j = true ↔ SD (F2 r 96) 96 j))) 12 (by
      rintro e ⟨a, ac⟩ he ⟨ha, hz, hm⟩
      dsimp only at ha hz hm
      subst ha
      right
      have hn : ¬ (12 : Int32) ≤ nI e := m_nle (N := 12) he (by omega)
      by_cases hk : R_kind r e = 1
      · obtain ⟨x, g1, g2, g3⟩ := itl_ix (b := fun a : Int32 × CS => b_X2_clearWrongEntriesOf_2 (nI e) a.1 a.2) (fun p a => a.1 = nI p ∧ ZZ a.2 (F2 r (8 * e + p)) ∧ (R_down (F2 r (8 * e + p)) = 0 → ∀ j, j < 12 → (bt (C_met a.2) j = true ↔ SD (F2 r (8 * e + p)) (8 * e + p) j)))
          (fun x => ZZ x (F2 r (8 * e + 8)) ∧ (R_down (F2 r (8 * e + 8)) = 0 → ∀ j, j < 12 → (bt (C_met x) j = true ↔ SD (F2 r (8 * e + 8)) (8 * e + 8) j))) 8 (by
            rintro p ⟨a, ac⟩ hp ⟨ha, hz, hm⟩
            dsimp only at ha hz hm
            subst ha
            right
            obtain ⟨c', w1, w2, w3⟩ := st2 he hp (by rw [F2_k]; exact hk) hz hm
            exact ⟨(nI (p + 1), c'), w1, rfl, w2, w3⟩)
          (by
            rintro ⟨a, ac⟩ ⟨ha, hz, hm⟩
            dsimp only at ha hz hm
            subst ha
            refine ⟨ac, ?_, hz, hm⟩
            dsimp only
            unfold b_X2_clearWrongEntriesOf_2
            rw [if_pos (show (8 : Int32) ≤ nI 8 from Int32.le_refl _)])
          8 0 300 ((0 : Int32), ac) rfl (by omega) ⟨rfl, hz, hm⟩
        refine ⟨(nI (e + 1), x), ?_, rfl, g2, g3⟩
        dsimp only
        unfold b_X2_clearWrongEntries_7 f_X2_clearWrongEntriesOf
        rw [if_neg hn, rd_k hz.1.1 he, F2_k, if_pos hk, g1, Option.bind_some, Option.bind_some, nI_1]
      · have hsame : ∀ t, t ≤ 8 → F2 r (8 * e + t) = F2 r (8 * e) := by
          intro t
          induction t with
          | zero => intro _; rfl
          | succ t ih =>
            intro ht
            show R2 (8 * e + t) (F2 r (8 * e + t)) = _
            rw [R2_f, ih (by omega)]
            rintro ⟨j, h1, _⟩
            have := h1.2.2.2.1
            rw [F2_k, show (8 * e + t) / 8 = e by omega] at this
            exact hk this
        have h8 : F2 r (8 * (e + 1)) = F2 r (8 * e) := hsame 8 (by omega)
        refine ⟨(nI (e + 1), ac), ?_, rfl, ?_, ?_⟩
        · dsimp only
          unfold b_X2_clearWrongEntries_7
          rw [if_neg hn, rd_k hz.1.1 he, F2_k, if_neg hk, nI_1]
        · rw [h8]; exact hz
        · rw [h8]
          intro h0 j hj
          rw [hm h0 j hj]
          constructor
          · rintro ⟨d', p', v1, v2⟩
            exact ⟨d', p', v1, by omega⟩
          · rintro ⟨d', p', v1, v2⟩
            refine ⟨d', p', v1, ?_⟩
            have hp' := v1.2.1
            have hne : d' ≠ e := fun q => by
              have := v1.2.2.2.1
              rw [q, F2_k] at this
              exact hk this
            omega)
    (by
      rintro ⟨a, ac⟩ ⟨ha, hz, hm⟩
      dsimp only at ha hz hm
      subst ha
      refine ⟨ac, ?_, hz, hm⟩
      dsimp only
      unfold b_X2_clearWrongEntries_7
      rw [if_pos (show (12 : Int32) ≤ nI 12 from Int32.le_refl _)])
    12 0 300 ((0 : Int32), sC_met 0 c) rfl (by omega) ⟨rfl, ZZ_met hZ 0, fun h0 j hj => by
      show bt 0 j = true ↔ _
      rw [b_0]
      constructor
      · intro h; exact absurd h (by decide)
      · rintro ⟨d', p', _, v⟩; omega⟩
  -- the reference: WI along the way, out of the class's walk of the same states
  have hWI : ∀ k, k ≤ 96 → ZZ (sC_met 0 c) (F2 r k) ∨ WI (R_kind (F2 r k)) (R_size (F2 r k)) (R_pl (F2 r k)) (R_rec (F2 r k)) := by
    intro k
    have go : ∀ k, k ≤ 96 → ∃ c', ZZ c' (F2 r k) := by
      intro k
      induction k with
      | zero => intro _; exact ⟨c, hZ⟩
      | succ k ih =>
        intro hk
        obtain ⟨c', hz⟩ := ih (by omega)
        show ∃ c', ZZ c' (R2 k (F2 r k))
        by_cases e : cnd (F2 r k) k
        · rw [R2_t e]
          obtain ⟨j, h1, _⟩ := e
          exact ⟨_, ZZ_P hz h1.1 h1.2.1 h1.2.2.2.1⟩
        · rw [R2_f e]; exact ⟨c', hz⟩
    intro hk
    obtain ⟨c', hz⟩ := go k hk
    exact Or.inr hz.2.1
  have hWI2 : ∀ k, k ≤ 96 → WI (R_kind (F2 r k)) (R_size (F2 r k)) (R_pl (F2 r k)) (R_rec (F2 r k)) := fun k hk => (hWI k hk).elim (fun z => z.2.1) id
  obtain ⟨x', h2, rfl⟩ := itl_ix (b := fun a : Int32 × RS => b_X3_restart_53 y1 y2 a.1 a.2) (fun k a => a = (nI k, F2 r k)) (fun x => x = F2 r 96) 96 (by
      rintro k a hk rfl
      have hn : ¬ (96 : Int32) ≤ nI k := m_nle (N := 96) hk (by omega)
      by_cases h0 : R_down (F2 r k) = 0
      · right
        refine ⟨(nI (k + 1), F2 r (k + 1)), ?_, rfl⟩
        have hW := hWI2 k (by omega)
        have hkd : k = 8 * (k / 8) + k % 8 := by omega
        have hd : k / 8 < 12 := by omega
        have hp : k % 8 < 8 := by omega
        dsimp only
        unfold b_X3_restart_53
        rw [if_neg hn, if_pos h0, n_div8 (show k < 2 ^ 31 by omega), m_chk hd (by omega), m_cl (show k / 8 < 2 ^ 31 by omega), m_chk (show k < 96 by omega) (by omega), m_cl (show k < 2 ^ 31 by omega)]
        show _ = some (Sum.inr (nI (k + 1), R2 k (F2 r k)))
        by_cases hk1 : R_kind (F2 r k) (k / 8) = 1
        · rw [if_pos hk1]
          have hr := ET_read hW hd hp hk1
          rw [← hkd] at hr
          rcases hr with ⟨z1, z2, z3⟩ | ⟨j, j1, j2, v3, v4, v5, v6, v7⟩
          · rw [if_pos z2, R2_f (fun ⟨j, h, _⟩ => z3 j h), nI_1]
          · rw [if_neg v5, m_chk (show k < 96 by omega) (by omega), v6, m_chk j2 (by omega), m_cl (show j < 2 ^ 31 by omega), m_chk (show k < 96 by omega) (by omega)]
            have hset : f_X3_setPlace (nI (k / 8)) (nI k - nI (k / 8) * (8 : Int32)) (0 : Int32) (F2 r k) = some (rW (uP (k / 8) (k % 8) 0) (F2 r k)) := by
              have e1 : nI k - nI (k / 8) * (8 : Int32) = nI (k % 8) := by
                rw [← n_div8 (show k < 2 ^ 31 by omega)]
                exact n_rem8 (by omega)
              rw [e1]
              exact w_P _ 0 hd hp
            rw [hset]
            simp only [Option.bind_some]
            by_cases hkj : R_kind (F2 r k) j = 0
            · rw [if_pos hkj, R2_t ⟨j, v3, Or.inl hkj⟩, nI_1]
            · rw [if_neg hkj]
              rcases pr_st (F2 r k) hW j2 (show k ≤ 96 by omega) with ⟨s1, s2⟩ | ⟨s1, s2⟩
              · rw [s1, Option.bind_some, if_neg (show ¬ (1 : Int32) = 0 by decide), R2_t ⟨j, v3, Or.inr s2⟩, nI_1]
              · rw [s1, Option.bind_some, if_pos rfl, R2_f, nI_1]
                rintro ⟨j', w1, w2⟩
                have := v7 j' w1
                subst this
                exact w2.elim hkj s2
        · rw [if_neg hk1, R2_f (fun ⟨j, h, _⟩ => hk1 h.2.2.2.1), nI_1]
      · left
        refine ⟨F2 r k, ?_, ?_⟩
        · dsimp only
          unfold b_X3_restart_53
          rw [if_neg hn, if_neg h0]
        · have := F2_dead r k h0 (96 - k)
          rw [show k + (96 - k) = 96 by omega] at this
          exact this.symm)
    (by
      rintro a rfl
      refine ⟨F2 r 96, ?_, rfl⟩
      dsimp only
      unfold b_X3_restart_53
      rw [if_pos (show (96 : Int32) ≤ nI 96 from Int32.le_refl _)])
    96 0 300 ((0 : Int32), r) rfl (by omega) rfl
  refine ⟨x, ?_, h2, hx1⟩
  unfold f_X2_clearWrongEntries
  rw [h1, Option.bind_some]
