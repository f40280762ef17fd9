/-! make: both sides -/
def OKi (w0 : Int32) (fc : Option (Int32 × CS)) (fr : Option (Int32 × RS)) : Prop := ∃ v c' r', fc = some (v, c') ∧ fr = some (v, r') ∧ RB c' r' ∧ IV r' ∧ ∃ m, m ≤ 200 ∧ R_wr r' = w0 + nI m
theorem OK_s {c : CS} {r : RS} (hB : RB c r) (hI : IV r) (v : Int32) : OKi (R_wr r) (some (v, c)) (some (v, r)) := ⟨v, c, r, rfl, rfl, hB, hI, 0, by omega, (Int32.add_zero _).symm⟩
theorem OK_m {c : CS} {r : RS} {w0 : Int32} {N : Nat} (hB : RB c r) (hI : IV r) (hw : ∃ m, m ≤ N ∧ R_wr r = w0 + nI m) (hN : N ≤ 200) (v : Int32) : OKi w0 (some (v, c)) (some (v, r)) := by
  obtain ⟨m, h1, h2⟩ := hw
  exact ⟨v, c, r, rfl, rfl, hB, hI, m, Nat.le_trans h1 hN, h2⟩
theorem OK_end {w0 : Int32} {N : Nat} {K S P C : NF} {c : CS} {r : RS} (h : ST w0 N K S P C c r) (hU : WU K P C) (a : Int32) (hN : N ≤ 200) : OKi w0 (some (f_X2_answerOrDown a c, c)) (if R_down r = 0 then some (a, r) else some (-2, r)) := by
  obtain ⟨hB, hI, hw⟩ := ST_end h hU
  rw [ST_ans h a]
  by_cases e : R_down r = 0
  · rw [if_pos e, if_pos e]; exact OK_m hB hI hw hN a
  · rw [if_neg e, if_neg e]; exact OK_m hB hI hw hN (-2)
theorem ite_or2 {α : Type} {p q : Prop} [Decidable p] [Decidable q] (h : p ∨ q) (A B : α) : (if p then A else if q then A else B) = A := by
  by_cases hp : p
  · rw [if_pos hp]
  · rw [if_neg hp, if_pos (h.resolve_left hp)]
theorem nI_n3 (n : Nat) (h : n < 2 ^ 31) : ¬ nI n = -3 := fun e => nI_pos h (by rw [e]; decide)
/-- the first k places of an inode 0 -/
def zp (P : NF) (i k : Nat) : NF := fun x => if 8 * i ≤ x ∧ x < 8 * i + k then 0 else P x
theorem zp_0 (P : NF) (i : Nat) : zp P i 0 = P := by
  funext x
  unfold zp
  rw [if_neg (by omega)]
theorem zp_s (P : NF) (i k : Nat) : upd (zp P i k) (8 * i + k) 0 = zp P i (k + 1) := by
  funext x
  by_cases e : x = 8 * i + k
  · rw [e, pk_us]
    unfold zp
    rw [if_pos (by omega)]
  · rw [pk_un e]
    unfold zp
    by_cases h : 8 * i ≤ x ∧ x < 8 * i + k
    · rw [if_pos h, if_pos (by omega)]
    · rw [if_neg h, if_neg (by omega)]
theorem zp_in (P : NF) (i k p : Nat) (h : p < k) : zp P i k (8 * i + p) = 0 := by
  unfold zp
  rw [if_pos (by omega)]
theorem zp_out (P : NF) (i k x : Nat) (h : ¬ (8 * i ≤ x ∧ x < 8 * i + k)) : zp P i k x = P x := by
  unfold zp
  rw [if_neg h]
theorem mm_make {c : CS} {r : RS} (hB : RB c r) (hI : IV r) (x1 x2 x3 : Int32) : OKi (R_wr r) (f_X2_make x1 x2 x3 c) (f_X3_make x1 x2 x3 r) := by
  unfold f_X2_make f_X3_make
  have n10 : ¬ (1 : Int32) = 0 := by decide
  rcases pr_ki hB.1 x1 1 with ⟨d, hd, rfl, hkd, a1, a2⟩ | ⟨a1, a2⟩
  rotate_left
  · rw [if_pos a1, a2, Option.bind_some, if_pos rfl]; exact OK_s hB hI _
  rw [a1, a2, Option.bind_some, if_neg n10, if_neg n10]
  rcases pr_nm x2 with ⟨nm, hn1, hn2, rfl, b1, b2⟩ | ⟨b1, b2⟩
  rotate_left
  · rw [if_pos b1, if_pos b2]; exact OK_s hB hI _
  rw [b1, b2, if_neg n10, if_neg n10, show (1 : Int64) = lN 1 from rfl, show (2 : Int64) = lN 2 from rfl, m_in x3 1 2 (by omega) (by omega)]
  by_cases h3 : x3 = 1 ∨ x3 = 2
  rotate_left
  · have q1 : ¬ x3 = 1 := fun e => h3 (Or.inl e)
    have q2 : ¬ x3 = 2 := fun e => h3 (Or.inr e)
    have q3 : ¬ (nI 1 ≤ x3 ∧ x3 ≤ nI 2) := by
      rintro ⟨z1, z2⟩
      rcases m_cases x3 3 (by omega) with h | h | ⟨j, hj, rfl⟩
      · exact Int32.not_le.mpr (Int32.lt_trans h (by decide)) z1
      · exact Int32.not_le.mpr (Int32.lt_of_lt_of_le (show nI 2 < nI 3 by decide) h) z2
      · have : j = 0 ∨ j = 1 ∨ j = 2 := by omega
        rcases this with rfl | rfl | rfl
        · exact absurd z1 (by decide)
        · exact q1 rfl
        · exact q2 rfl
    rw [if_neg q1, if_neg q2, if_neg q3, if_pos rfl]; exact OK_s hB hI _
  have q3 : nI 1 ≤ x3 ∧ x3 ≤ nI 2 := by rcases h3 with rfl | rfl <;> decide
  rw [ite_or2 h3, if_pos q3, if_neg n10]
  by_cases h0 : R_down r = 0
  rotate_left
  · rw [if_neg (fun e => h0 (hB.2.2.2.2.2.symm.trans e)), if_neg h0]; exact OK_s hB hI _
  rw [if_pos (hB.2.2.2.2.2.trans h0), if_pos h0]
  obtain ⟨k1, k2, s1, e1, u1, u2, rk⟩ := id hI.1
  obtain ⟨w1, w2, w3⟩ := hI.2.2.2 h0
  rcases pr_pn hB.1 hd (fun p hp => e1 d p hd hp hkd) hn1 hn2 with ⟨p, j, hp, _, _, _, c1, c2⟩ | ⟨c1, c2⟩
  · rw [c1, c2, Option.bind_some, Option.bind_some, if_neg (nI_n3 p (by omega)), if_neg (nI_pos (show p < 2 ^ 31 by omega))]; exact OK_s hB hI _
  rw [c1, c2, Option.bind_some, Option.bind_some, if_pos rfl, if_pos (show (-1 : Int32) < 0 by decide)]
  rcases pr_ni hB.1 (nI d) (nI nm) x3 with ⟨i, hi, hki, g1, g2⟩ | ⟨g1, g2⟩
  rotate_left
  · rcases pr_ne hB.1 hd with ⟨e, he, hpe, f1, f2⟩ | ⟨f1, f2⟩
    · rw [g1, g2, f1, f2]
      simp only [Option.bind_some]
      rw [if_pos trivial, if_pos trivial]; exact OK_s hB hI _
    · rw [g1, g2, f1, f2]
      simp only [Option.bind_some]
      rw [if_pos trivial, if_pos trivial]; exact OK_s hB hI _
  have hi12 : ¬ nI i = 12 := fun q => absurd (m_inj (a := i) (b := 12) (by omega) (by omega) q) (by omega)
  rcases pr_ne hB.1 hd with ⟨e, he, hpe, f1, f2⟩ | ⟨f1, f2⟩
  rotate_left
  · rw [g1, g2, f1, f2]
    simp only [Option.bind_some]
    rw [if_neg (nI_n3 i (by omega)), if_pos trivial, if_neg hi12, if_neg (show ¬ (0 : Int32) ≤ -1 by decide)]; exact OK_s hB hI _
  rw [g1, g2, f1, f2]
  simp only [Option.bind_some]
  rw [if_neg (nI_n3 i (by omega)), if_neg (nI_n3 e (by omega)), if_neg hi12, if_pos (nI_pos' (show e < 2 ^ 31 by omega)), w_S r 0 hi]
  simp only [Option.bind_some]
  have hi1 : 1 ≤ i := Nat.one_le_iff_ne_zero.mpr (fun q => by rw [q, k2] at hki; exact absurd hki (by decide))
  have hk2 : ¬ R_kind r i = 2 := by rw [hki]; decide
  have hdi : d ≠ i := fun q => by rw [q, hki] at hkd; exact absurd hkd (by decide)
  have hus : ∀ q, ¬ US (R_kind r) (upd (R_size r) i (nI 0)) i q := fun q h => hk2 h.2.2.1
  have t0 := ST_0 hB hI h0
  have t1 := ST_S t0 hi 0 (WI_S0 (n := 0) hI.1 hk2 (by omega) w1)
  have z0 : ∀ k, k ≤ 8 → WI (R_kind r) (upd (R_size r) i (nI 0)) (zp (R_pl r) i k) (R_rec r) := by
    intro k
    induction k with
    | zero => intro _; rw [zp_0]; exact WI_S0 (n := 0) hI.1 hk2 (by omega) w1
    | succ k ih =>
      intro hk
      rw [← zp_s]
      exact WI_P (ih (by omega)) (by omega) (hus k) (fun q => by rw [hki] at q; exact absurd q (by decide)) w1
  obtain ⟨y, y', l1, l2, t2⟩ := itl_two (b := fun a : Int32 × CS => b_X2_make_102 (nI d) (nI nm) x3 (nI i) (nI e) a.1 a.2) (b' := fun a : Int32 × RS => b_X3_make_110 (nI d) (nI nm) x3 (nI i) (nI e) a.1 a.2)
    (fun k a a' => a.1 = nI k ∧ a'.1 = nI k ∧ ST (R_wr r) (1 + k) (R_kind r) (upd (R_size r) i (nI 0)) (zp (R_pl r) i k) (R_rec r) a.2 a'.2)
    (fun y y' => ST (R_wr r) 9 (R_kind r) (upd (R_size r) i (nI 0)) (zp (R_pl r) i 8) (R_rec r) y y') 8 (by
      rintro k ⟨a, ac⟩ ⟨a', ar⟩ hk ⟨ha, ha', hs⟩
      dsimp only at ha ha' hs
      subst ha; subst ha'
      have hn8 : ¬ (8 : Int32) ≤ nI k := m_nle (N := 8) hk (by omega)
      have hw := ST_P hs hi hk 0 (by rw [zp_s]; exact z0 (k + 1) (by omega))
      rw [zp_s] at hw
      right
      refine ⟨(nI (k + 1), f_X0_write (f_X2_placeAt (nI i) (nI k)) (0 : Int64) ac), (nI (k + 1), rW (uP i k 0) ar), ?_, ?_, rfl, rfl, hw⟩
      · dsimp only
        unfold b_X2_make_102
        rw [if_neg hn8, nI_1]
      · dsimp only
        unfold b_X3_make_110
        rw [if_neg hn8, nI_1, w_P ar 0 hi hk, Option.bind_some])
    (by
      rintro ⟨a, ac⟩ ⟨a', ar⟩ ⟨ha, ha', hs⟩
      dsimp only at ha ha' hs
      subst ha; subst ha'
      refine ⟨ac, ar, ?_, ?_, hs⟩
      · dsimp only
        unfold b_X2_make_102
        rw [if_pos (show (8 : Int32) ≤ nI 8 from Int32.le_refl _)]
      · dsimp only
        unfold b_X3_make_110
        rw [if_pos (show (8 : Int32) ≤ nI 8 from Int32.le_refl _)])
    8 0 300 300 (0, f_X0_write (f_X2_inodeAt (nI i) (1 : Int32)) (0 : Int64) c) (0, rW (uS i 0) r) rfl (by omega) (by omega) ⟨rfl, rfl, by rw [zp_0]; exact t1⟩
  rw [l1, l2]
  simp only [Option.bind_some]
  rw [w_K y' x3 hi]
  simp only [Option.bind_some]
  rw [show (100 : Int32) * nI i + nI nm = nI (100 * i + nm) by rw [show (100 : Int32) = nI 100 from rfl, pk_mul, nI_add], w_P _ _ hd he]
  simp only [Option.bind_some]
  have hz : upd (R_size r) i (nI 0) i = 0 := by rw [pk_us]; rfl
  have g1 : WI (upd (R_kind r) i x3) (upd (R_size r) i (nI 0)) (zp (R_pl r) i 8) (R_rec r) := WI_K1 (z0 8 (by omega)) hi1 h3 (fun p hp => zp_in _ _ _ _ hp) hz w1
  have t3 := ST_K t2 hi x3 g1
  have hKd : upd (R_kind r) i x3 d = 1 := by rw [pk_un hdi]; exact hkd
  have g2 : WI (upd (R_kind r) i x3) (upd (R_size r) i (nI 0)) (upd (zp (R_pl r) i 8) (8 * d + e) (nI (100 * i + nm))) (R_rec r) := WI_P g1 he (fun q => by
    have := q.2.2.1
    rw [hKd] at this
    exact absurd this (by decide)) (fun _ => Or.inr ⟨i, nm, hi1, hi, hn1, hn2, rfl⟩) w1
  have t4 := ST_P t3 hd he (nI (100 * i + nm)) g2
  have hen : f_X2_entryOf (nI i) (nI nm) = nI (100 * i + nm) := by
    unfold f_X2_entryOf
    rw [show (100 : Int32) = nI 100 from rfl, pk_mul, nI_add, Nat.mul_comm]
  rw [hen]
  refine OK_end t4 ?_ (nI i) (by omega)
  have hT : ∀ d' p' j, ET (upd (R_kind r) i x3) (upd (zp (R_pl r) i 8) (8 * d + e) (nI (100 * i + nm))) d' p' j → (d' = d ∧ p' = e ∧ j = i) ∨ (ET (R_kind r) (R_pl r) d' p' j ∧ j ≠ i) := by
    rintro d' p' j ⟨v1, v2, vj, v3, n, v4, v5, v6⟩
    by_cases q : 8 * d' + p' = 8 * d + e
    · left
      rw [q, pk_us] at v6
      have hj := m_inj (a := 100 * i + nm) (b := 100 * j + n) (by omega) (by omega) v6
      exact ⟨by omega, by omega, by omega⟩
    · rw [pk_un q] at v6
      by_cases q2 : d' = i
      · rw [q2, zp_in _ _ _ _ v2] at v6
        exact absurd v6.symm (nI_ne0 (by omega) (by omega))
      · rw [pk_un q2] at v3
        rw [zp_out _ _ _ _ (by omega)] at v6
        right
        have hE : ET (R_kind r) (R_pl r) d' p' j := ⟨v1, v2, vj, v3, n, v4, v5, v6⟩
        exact ⟨hE, fun q3 => w2 d' p' j hE (by rw [q3]; exact hki)⟩
  refine ⟨w1, fun d' p' j hE => ?_, fun d1 p1 d2 p2 j hE1 hE2 => ?_⟩
  · rcases hT d' p' j hE with ⟨_, _, rfl⟩ | ⟨hE', hne⟩
    · rw [pk_us]; rcases h3 with rfl | rfl <;> decide
    · rw [pk_un hne]; exact w2 d' p' j hE'
  · rcases hT d1 p1 j hE1 with ⟨rfl, rfl, rfl⟩ | ⟨hE1', hne1⟩ <;> rcases hT d2 p2 j hE2 with ⟨rfl, rfl, q⟩ | ⟨hE2', hne2⟩
    · exact ⟨rfl, rfl⟩
    · exact absurd rfl hne2
    · exact absurd q hne1
    · exact w3 d1 p1 d2 p2 j hE1' hE2'
