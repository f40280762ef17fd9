/-! the least and the greatest free block; append -/
theorem pr_lf {c : CS} {r : RS} (hR : RW c r) (hW : WI (R_kind r) (R_size r) (R_pl r) (R_rec r)) :
    ∃ U, f_X2_usedBlocks c = some U ∧ ((∃ b, b < 40 ∧ (∀ i p, US (R_kind r) (R_size r) i p → ¬ R_pl r (8 * i + p) = nI b) ∧ f_X2_leastFree U = some (nI b) ∧ f_X3_leastFree r = some (nI b)) ∨ (f_X2_leastFree U = some (-3) ∧ f_X3_leastFree r = some (-1))) := by
  obtain ⟨A, hA, hub, hbit⟩ := pr_ub hR hW
  obtain ⟨x, x', e1, e2, hJ⟩ := itl_two (b := fun a : Int32 => b_X2_leastFree_2 (lN A) a) (b' := fun a : Int32 => b_X3_leastFree_2 r a) (fun k a a' => a = nI k ∧ a' = nI k)
    (fun x x' => (∃ b, b < 40 ∧ (∀ i p, US (R_kind r) (R_size r) i p → ¬ R_pl r (8 * i + p) = nI b) ∧ x = .inl (nI b) ∧ x' = .inl (nI b)) ∨ (x = .inr () ∧ x' = .inr ())) 40 (by
      rintro k a a' hk ⟨rfl, rfl⟩
      have hn : ¬ (40 : Int32) ≤ nI k := m_nle (N := 40) hk (by omega)
      rcases pr_iu r hW (nI k) with ⟨u1, i, p, u2, u3⟩ | ⟨u1, u2⟩
      · right
        have ht : ¬ A.testBit k = false := by rw [(hbit k (by omega)).mpr ⟨i, p, u2, u3⟩]; decide
        refine ⟨nI (k + 1), nI (k + 1), ?_, ?_, rfl, rfl⟩
        · unfold b_X2_leastFree_2
          rw [if_neg hn, if_neg (fun q => ht ((ub_t hA (by omega)).mp q)), nI_1]
        · unfold b_X3_leastFree_2
          rw [if_neg hn, u1, Option.bind_some, if_neg (show ¬ (1 : Int32) = 0 by decide), nI_1]
      · left
        have ht : A.testBit k = false := by
          cases h : A.testBit k with
          | false => rfl
          | true =>
            obtain ⟨i, p, z1, z2⟩ := (hbit k (by omega)).mp h
            exact absurd z2 (u2 i p z1)
        refine ⟨.inl (nI k), .inl (nI k), ?_, ?_, Or.inl ⟨k, hk, u2, rfl, rfl⟩⟩
        · unfold b_X2_leastFree_2
          rw [if_neg hn, if_pos ((ub_t hA (by omega)).mpr ht)]
        · unfold b_X3_leastFree_2
          rw [if_neg hn, u1, Option.bind_some, if_pos rfl])
    (by
      rintro a a' ⟨rfl, rfl⟩
      refine ⟨.inr (), .inr (), ?_, ?_, Or.inr ⟨rfl, rfl⟩⟩
      · unfold b_X2_leastFree_2
        rw [if_pos (show (40 : Int32) ≤ nI 40 from Int32.le_refl _)]
      · unfold b_X3_leastFree_2
        rw [if_pos (show (40 : Int32) ≤ nI 40 from Int32.le_refl _)])
    40 0 300 300 0 0 rfl (by omega) (by omega) ⟨rfl, rfl⟩
  refine ⟨lN A, hub, ?_⟩
  unfold f_X2_leastFree f_X3_leastFree
  rw [e1, e2]
  rcases hJ with ⟨b, a1, a2, rfl, rfl⟩ | ⟨rfl, rfl⟩
  · exact Or.inl ⟨b, a1, a2, rfl, rfl⟩
  · exact Or.inr ⟨rfl, rfl⟩
theorem dn_1 {k : Nat} (hk : k < 40) : (k + 1 < 40 ∧ nI (39 - k) + (-1) = nI (39 - (k + 1))) ∨ (k + 1 = 40 ∧ nI (39 - k) + (-1) = -1) := by
  by_cases h : k = 39
  · right; subst h; decide
  · left
    refine ⟨by omega, ?_⟩
    obtain ⟨j, hj⟩ : ∃ j, 39 - k = j + 1 := ⟨38 - k, by omega⟩
    rw [hj, pk_m1]
    congr 1; omega
theorem pr_gf {c : CS} {r : RS} (hR : RW c r) (hW : WI (R_kind r) (R_size r) (R_pl r) (R_rec r)) :
    ∃ U, f_X2_usedBlocks c = some U ∧ ((∃ b, b < 40 ∧ (∀ i p, US (R_kind r) (R_size r) i p → ¬ R_pl r (8 * i + p) = nI b) ∧ f_X2_greatestFree U = some (nI b) ∧ f_X3_greatestFree r = some (nI b)) ∨ (f_X2_greatestFree U = some (-3) ∧ f_X3_greatestFree r = some (-1))) := by
  obtain ⟨A, hA, hub, hbit⟩ := pr_ub hR hW
  obtain ⟨x, x', e1, e2, hJ⟩ := itl_two (b := fun a : Int32 => b_X2_greatestFree_3 (lN A) a) (b' := fun a : Int32 => b_X3_greatestFree_3 r a) (fun k a a' => a = a' ∧ ((k < 40 ∧ a = nI (39 - k)) ∨ (k = 40 ∧ a = -1)))
    (fun x x' => (∃ b, b < 40 ∧ (∀ i p, US (R_kind r) (R_size r) i p → ¬ R_pl r (8 * i + p) = nI b) ∧ x = .inl (nI b) ∧ x' = .inl (nI b)) ∨ (x = .inr () ∧ x' = .inr ())) 40 (by
      rintro k a a' hk ⟨rfl, ⟨_, rfl⟩ | ⟨z, _⟩⟩
      rotate_left
      · omega
      have hn : ¬ nI (39 - k) < 0 := nI_pos (by omega)
      rcases pr_iu r hW (nI (39 - k)) with ⟨u1, i, p, u2, u3⟩ | ⟨u1, u2⟩
      · right
        have ht : ¬ A.testBit (39 - k) = false := by rw [(hbit (39 - k) (by omega)).mpr ⟨i, p, u2, u3⟩]; decide
        refine ⟨nI (39 - k) + (-1), nI (39 - k) + (-1), ?_, ?_, rfl, dn_1 hk⟩
        · unfold b_X2_greatestFree_3
          rw [if_neg hn, if_neg (fun q => ht ((ub_t hA (by omega)).mp q))]
        · unfold b_X3_greatestFree_3
          rw [if_neg hn, u1, Option.bind_some, if_neg (show ¬ (1 : Int32) = 0 by decide)]
      · left
        have ht : A.testBit (39 - k) = false := by
          cases h : A.testBit (39 - k) with
          | false => rfl
          | true =>
            obtain ⟨i, p, z1, z2⟩ := (hbit (39 - k) (by omega)).mp h
            exact absurd z2 (u2 i p z1)
        refine ⟨.inl (nI (39 - k)), .inl (nI (39 - k)), ?_, ?_, Or.inl ⟨39 - k, by omega, u2, rfl, rfl⟩⟩
        · unfold b_X2_greatestFree_3
          rw [if_neg hn, if_pos ((ub_t hA (by omega)).mpr ht)]
        · unfold b_X3_greatestFree_3
          rw [if_neg hn, u1, Option.bind_some, if_pos rfl])
    (by
      rintro a a' ⟨rfl, ⟨z, _⟩ | ⟨_, rfl⟩⟩
      · omega
      refine ⟨.inr (), .inr (), ?_, ?_, Or.inr ⟨rfl, rfl⟩⟩
      · unfold b_X2_greatestFree_3
        rw [if_pos (show (-1 : Int32) < 0 by decide)]
      · unfold b_X3_greatestFree_3
        rw [if_pos (show (-1 : Int32) < 0 by decide)])
    40 0 300 300 39 39 rfl (by omega) (by omega) ⟨rfl, Or.inl ⟨by omega, rfl⟩⟩
  refine ⟨lN A, hub, ?_⟩
  unfold f_X2_greatestFree f_X3_greatestFree
  rw [e1, e2]
  rcases hJ with ⟨b, a1, a2, rfl, rfl⟩ | ⟨rfl, rfl⟩
  · exact Or.inl ⟨b, a1, a2, rfl, rfl⟩
  · exact Or.inr ⟨rfl, rfl⟩
theorem rW_sz {u : RS → RS} (h : ∀ r, R_size (u r) = R_size r) (r : RS) : R_size (rW u r) = R_size r := by
  rw [rW_eq]
  split
  · split
    · rfl
    · rw [h]; rfl
  · rfl
theorem rW_szD (b k : Nat) (v : Int64) (r : RS) : R_size (rW (uD b k v) r) = R_size r := rW_sz (u := uD b k v) (fun _ => rfl) r
theorem rW_szP (i p : Nat) (v : Int32) (r : RS) : R_size (rW (uP i p v) r) = R_size r := rW_sz (u := uP i p v) (fun _ => rfl) r
theorem mm_append {c : CS} {r : RS} (hB : RB c r) (hI : IV r) (x1 : Int32) (x2 x4 x6 : Int64) : OKi (R_wr r) (f_X2_append x1 x2 x4 x6 c) (f_X3_append x1 x2 x4 x6 r) := by
  unfold f_X2_append f_X3_append
  have n10 : ¬ (1 : Int32) = 0 := by decide
  rcases pr_ki hB.1 x1 2 with ⟨i, hi, rfl, hk, a1, a2⟩ | ⟨a1, a2⟩
  rotate_left
  · rw [if_pos a1, a2, Option.bind_some, if_pos rfl]; exact OK_s hB hI _
  rw [a1, a2, Option.bind_some, if_neg n10, if_neg n10]
  by_cases h0 : R_down r = 0
  rotate_left
  · rw [if_neg (fun e => h0 (hB.2.2.2.2.2.symm.trans e)), if_neg h0]; exact OK_s hB hI _
  rw [if_pos (hB.2.2.2.2.2.trans h0), if_pos h0]
  obtain ⟨w1, w2, w3⟩ := hI.2.2.2 h0
  obtain ⟨n, hn, hs⟩ := hI.1.2.2.1 i hi
  obtain ⟨U, fu, hlf⟩ := pr_lf hB.1 hI.1
  rw [rd_s hB.1 hi, hs, fu, Option.bind_some]
  by_cases h8 : n = 8
  · subst h8
    rcases hlf with ⟨b, hb, hfr, f1, f2⟩ | ⟨f1, f2⟩
    · rw [f1, f2, Option.bind_some, Option.bind_some, if_pos (show (8 : Int32) ≤ nI 8 from Int32.le_refl _), m_chk hi (by omega), m_cl (by omega), hs, if_pos (show nI 8 = (8 : Int32) from rfl)]; exact OK_s hB hI _
    · rw [f1, f2, Option.bind_some, Option.bind_some, if_pos (show (8 : Int32) ≤ nI 8 from Int32.le_refl _), m_chk hi (by omega), m_cl (by omega), hs, if_pos (show nI 8 = (8 : Int32) from rfl)]; exact OK_s hB hI _
  have hn8 : n < 8 := by omega
  have hc8 : ¬ (8 : Int32) ≤ nI n := m_nle (N := 8) hn8 (by omega)
  have he8 : ¬ nI n = (8 : Int32) := fun q => h8 (m_inj (a := n) (b := 8) (by omega) (by omega) q)
  rcases hlf with ⟨b, hb, hfr, f1, f2⟩ | ⟨f1, f2⟩
  rotate_left
  · rw [f1, f2, Option.bind_some, Option.bind_some, if_neg hc8, if_pos rfl, m_chk hi (by omega), m_cl (by omega), hs, if_neg he8, if_neg (show ¬ (0 : Int32) ≤ -1 by decide)]; exact OK_s hB hI _
  have hz0 : (0 : Int32) = nI 0 := rfl
  have hd0 := w_D r x2 (b := b) (k := 0) hb (by omega)
  have hd1 := w_D (rW (uD b 0 x2) r) x4 (b := b) (k := 1) hb (by omega)
  have hd2 := w_D (rW (uD b 1 x4) (rW (uD b 0 x2) r)) x6 (b := b) (k := 2) hb (by omega)
  have g0 : f_X3_setData (nI b) (0 : Int32) x2 r = some (rW (uD b 0 x2) r) := hd0
  have g1 : f_X3_setData (nI b) (1 : Int32) x4 (rW (uD b 0 x2) r) = some (rW (uD b 1 x4) (rW (uD b 0 x2) r)) := hd1
  have g2 : f_X3_setData (nI b) (2 : Int32) x6 (rW (uD b 1 x4) (rW (uD b 0 x2) r)) = some (rW (uD b 2 x6) (rW (uD b 1 x4) (rW (uD b 0 x2) r))) := hd2
  have sz : R_size (rW (uD b 2 x6) (rW (uD b 1 x4) (rW (uD b 0 x2) r))) = R_size r := by
    rw [rW_szD, rW_szD, rW_szD]
  rw [f1, f2, Option.bind_some, Option.bind_some, if_neg hc8, if_neg (nI_n3 b (by omega)), m_chk hi (by omega), m_cl (show i < 2 ^ 31 by omega), hs, if_neg he8, if_pos (nI_pos' (show b < 2 ^ 31 by omega)), g0, Option.bind_some, g1, Option.bind_some, g2, Option.bind_some, m_chk hi (by omega), sz, hs, w_P _ _ hi hn8, Option.bind_some, m_chk hi (by omega), rW_szP, sz, hs, nI_1, w_S _ _ hi, Option.bind_some, m_chk hi (by omega)]
  have t0 := ST_D (ST_D (ST_D (ST_0 hB hI h0) hb (show 0 < 3 by omega) x2 hI.1) hb (show 1 < 3 by omega) x4 hI.1) hb (show 2 < 3 by omega) x6 hI.1
  have v1 : WI (R_kind r) (R_size r) (upd (R_pl r) (8 * i + n) (nI b)) (R_rec r) := WI_P hI.1 hn8 (fun q => by
    have := q.2.2.2
    rw [hs] at this
    exact nI_nlt (a := n) (b := n) (Nat.le_refl _) (by omega) this) (fun q => by rw [hk] at q; exact absurd q (by decide)) w1
  have t1 := ST_P t0 hi hn8 (nI b) v1
  have hfr' : ∀ a p, US (R_kind r) (R_size r) a p → ¬ upd (R_pl r) (8 * i + n) (nI b) (8 * a + p) = nI b := fun a p hu => by
    have hne : 8 * a + p ≠ 8 * i + n := fun e => by
      have hp := hu.2.1
      have e1 : a = i := by omega
      have e2 : p = n := by omega
      have := hu.2.2.2
      rw [e1, hs, e2] at this
      exact nI_nlt (a := n) (b := n) (Nat.le_refl _) (by omega) this
    rw [pk_un hne]
    exact hfr a p hu
  have v2 : WI (R_kind r) (upd (R_size r) i (nI (n + 1))) (upd (R_pl r) (8 * i + n) (nI b)) (R_rec r) := WI_S1 v1 hn8 hs hb pk_us hfr' w1
  have t2 := ST_S t1 hi (nI (n + 1)) v2
  have hU : WU (R_kind r) (upd (R_pl r) (8 * i + n) (nI b)) (R_rec r) := by
    have hT : ∀ d p j, ET (R_kind r) (upd (R_pl r) (8 * i + n) (nI b)) d p j → ET (R_kind r) (R_pl r) d p j := by
      rintro d p j ⟨y1, y2, y3, y4, m, y5, y6, y7⟩
      have hne : 8 * d + p ≠ 8 * i + n := fun e => by
        have e1 : d = i := by omega
        rw [e1, hk] at y4
        exact absurd y4 (by decide)
      rw [pk_un hne] at y7
      exact ⟨y1, y2, y3, y4, m, y5, y6, y7⟩
    exact ⟨w1, fun d p j h => w2 d p j (hT d p j h), fun d p e q j h1 h2 => w3 d p e q j (hT _ _ _ h1) (hT _ _ _ h2)⟩
  have key := OK_end t2 hU (nI (n + 1)) (by omega)
  have hans : ∀ z : RS, z = rW (uS i (nI (n + 1))) (rW (uP i n (nI b)) (rW (uD b 2 x6) (rW (uD b 1 x4) (rW (uD b 0 x2) r)))) → (if R_down z = 0 then some (R_size z i, z) else some ((-2 : Int32), z)) = (if R_down z = 0 then some (nI (n + 1), z) else some ((-2 : Int32), z)) := by
    intro z hz
    by_cases e : R_down z = 0
    · rw [if_pos e, if_pos e]
      have := (t2.2.2.2 (by rw [← hz]; exact e)).2.1
      rw [← hz] at this
      rw [this, pk_us]
    · rw [if_neg e, if_neg e]
  rw [hans _ rfl]
  exact key
