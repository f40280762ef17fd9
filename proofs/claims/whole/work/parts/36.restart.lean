/-! inodes without an entry; the rounds; restart -/
def cn3 (r : RS) (i : Nat) : Prop := ¬ R_kind r i = 0 ∧ ¬ SD r 96 i
noncomputable def R3 (i : Nat) (r : RS) : RS := @ite RS (cn3 r i) (Classical.propDecidable _) (rW (uK i 0) r) r
theorem R3_t {i : Nat} {r : RS} (h : cn3 r i) : R3 i r = rW (uK i 0) r := by unfold R3; rw [if_pos h]
theorem R3_f {i : Nat} {r : RS} (h : ¬ cn3 r i) : R3 i r = r := by unfold R3; rw [if_neg h]
theorem R3_dead {i : Nat} {r : RS} (h : ¬ R_down r = 0) : R3 i r = r := by
  by_cases e : cn3 r i
  · rw [R3_t e, rW_dead _ h]
  · exact R3_f e
/-- inodes 1 .. n gone through -/
noncomputable def F3 (r : RS) : Nat → RS
  | 0 => r
  | n + 1 => R3 (n + 1) (F3 r n)
theorem F3_dead (r : RS) (k : Nat) (h : ¬ R_down (F3 r k) = 0) : ∀ m, F3 r (k + m) = F3 r k
  | 0 => rfl
  | m + 1 => by
    show R3 (k + m + 1) (F3 r (k + m)) = _
    rw [F3_dead r k h m, R3_dead h]
theorem ET_96 {K P : NF} {d p j : Nat} (h : ET K P d p j) : 8 * d + p < 96 := by
  have h1 := h.1
  have h2 := h.2.1
  omega
theorem pr_p3 {c : CS} {r : RS} (hZ : ZZ c r) (y1 y2 : Int32) : ∃ c', f_X2_clearInodesWithoutEntry c = some c' ∧ itl (fun a : Int32 × RS => b_X3_restart_143 y1 y2 a.1 a.2) 300 ((1 : Int32), r) = some (F3 r 11) ∧ ZZ c' (F3 r 11) := by
  obtain ⟨x, h1, hx⟩ := itl_ix (b := fun a : Int32 × CS => b_X2_clearInodesWithoutEntry_2 a.1 a.2) (fun n a => a.1 = nI (n + 1) ∧ ZZ a.2 (F3 r n)) (fun x => ZZ x (F3 r 11)) 11 (by
      rintro n ⟨a, ac⟩ hn ⟨ha, hz⟩
      dsimp only at ha hz
      subst ha
      right
      have hi : n + 1 < 12 := by omega
      have hn12 : ¬ (12 : Int32) ≤ nI (n + 1) := m_nle (N := 12) hi (by omega)
      by_cases hk : R_kind (F3 r n) (n + 1) = 0
      · refine ⟨(nI (n + 1 + 1), ac), ?_, rfl, ?_⟩
        · dsimp only
          unfold b_X2_clearInodesWithoutEntry_2
          rw [if_neg hn12, rd_k hz.1.1 hi, if_pos hk, nI_1]
        · show ZZ ac (R3 (n + 1) (F3 r n))
          rw [R3_f (fun q => q.1 hk)]; exact hz
      · rcases pr_da hz.1.1 hz.2.1 hi with ⟨e, p, e1, e2⟩ | ⟨e1, e2⟩
        · refine ⟨(nI (n + 1 + 1), ac), ?_, rfl, ?_⟩
          · dsimp only
            unfold b_X2_clearInodesWithoutEntry_2
            rw [if_neg hn12, rd_k hz.1.1 hi, if_neg hk, e2, Option.bind_some, if_neg (nI_n3 e (by have := e1.1; omega)), nI_1]
          · show ZZ ac (R3 (n + 1) (F3 r n))
            rw [R3_f (fun q => q.2 ⟨e, p, e1, ET_96 e1⟩)]; exact hz
        · refine ⟨(nI (n + 1 + 1), f_X0_write (f_X2_inodeAt (nI (n + 1)) (0 : Int32)) (0 : Int64) ac), ?_, rfl, ?_⟩
          · dsimp only
            unfold b_X2_clearInodesWithoutEntry_2
            rw [if_neg hn12, rd_k hz.1.1 hi, if_neg hk, e1, Option.bind_some, if_pos rfl, nI_1]
          · show ZZ _ (R3 (n + 1) (F3 r n))
            rw [R3_t ⟨hk, fun ⟨e, p, q1, q2⟩ => e2 e p q1⟩]
            exact ZZ_K hz (by omega) hi)
    (by
      rintro ⟨a, ac⟩ ⟨ha, hz⟩
      dsimp only at ha hz
      subst ha
      refine ⟨ac, ?_, hz⟩
      dsimp only
      unfold b_X2_clearInodesWithoutEntry_2
      rw [if_pos (show (12 : Int32) ≤ nI (11 + 1) from Int32.le_refl _)])
    11 0 300 ((1 : Int32), c) rfl (by omega) ⟨rfl, hZ⟩
  have hWI : ∀ n, n ≤ 11 → WI (R_kind (F3 r n)) (R_size (F3 r n)) (R_pl (F3 r n)) (R_rec (F3 r n)) := by
    have go : ∀ n, n ≤ 11 → ∃ c', ZZ c' (F3 r n) := by
      intro n
      induction n with
      | zero => intro _; exact ⟨c, hZ⟩
      | succ n ih =>
        intro hn
        obtain ⟨c', hz⟩ := ih (by omega)
        show ∃ c', ZZ c' (R3 (n + 1) (F3 r n))
        by_cases e : cn3 (F3 r n) (n + 1)
        · rw [R3_t e]; exact ⟨_, ZZ_K hz (by omega) (by omega)⟩
        · rw [R3_f e]; exact ⟨c', hz⟩
    intro n hn
    obtain ⟨c', hz⟩ := go n hn
    exact hz.2.1
  obtain ⟨x', h2, rfl⟩ := itl_ix (b := fun a : Int32 × RS => b_X3_restart_143 y1 y2 a.1 a.2) (fun n a => a = (nI (n + 1), F3 r n)) (fun x => x = F3 r 11) 11 (by
      rintro n a hn rfl
      have hi : n + 1 < 12 := by omega
      have hn12 : ¬ (12 : Int32) ≤ nI (n + 1) := m_nle (N := 12) hi (by omega)
      by_cases h0 : R_down (F3 r n) = 0
      · right
        refine ⟨(nI (n + 1 + 1), F3 r (n + 1)), ?_, rfl⟩
        dsimp only
        unfold b_X3_restart_143
        rw [if_neg hn12, if_pos h0, m_chk hi (by omega), m_cl (show n + 1 < 2 ^ 31 by omega)]
        show _ = some (Sum.inr (nI (n + 1 + 1), R3 (n + 1) (F3 r n)))
        by_cases hk : R_kind (F3 r n) (n + 1) = 0
        · rw [if_pos hk, R3_f (fun q => q.1 hk), nI_1]
        · have hs := pr_st (F3 r n) (hWI n (by omega)) hi (show 96 ≤ 96 by omega)
          have h96 : nI 96 = (96 : Int32) := rfl
          rw [h96] at hs
          rw [if_neg hk]
          rcases hs with ⟨s1, s2⟩ | ⟨s1, s2⟩
          · rw [s1, Option.bind_some, if_neg (show ¬ (1 : Int32) = 0 by decide), R3_f (fun q => q.2 s2), nI_1]
          · rw [s1, Option.bind_some, if_pos rfl, w_K _ 0 hi, Option.bind_some, R3_t ⟨hk, s2⟩, nI_1]
      · left
        refine ⟨F3 r n, ?_, ?_⟩
        · dsimp only
          unfold b_X3_restart_143
          rw [if_neg hn12, if_neg h0]
        · have := F3_dead r n h0 (11 - n)
          rw [show n + (11 - n) = 11 by omega] at this
          exact this.symm)
    (by
      rintro a rfl
      refine ⟨F3 r 11, ?_, rfl⟩
      dsimp only
      unfold b_X3_restart_143
      rw [if_pos (show (12 : Int32) ≤ nI (11 + 1) from Int32.le_refl _)])
    11 0 300 ((1 : Int32), r) rfl (by omega) rfl
  refine ⟨x, ?_, h2, hx⟩
  unfold f_X2_clearInodesWithoutEntry
  rw [h1, Option.bind_some]
/-- how much there is to clear -/
def mu (r : RS) : Nat := cn (fun x => ¬ R_pl r x = 0) 96 + cn (fun i => ¬ R_kind r i = 0) 12
theorem mu_le (r : RS) : mu r ≤ 108 := by
  have h1 := cn_le (fun x => ¬ R_pl r x = 0) 96
  have h2 := cn_le (fun i => ¬ R_kind r i = 0) 12
  unfold mu
  omega
theorem cn_dec {f : NF} {x : Nat} (hx : ¬ f x = 0) : ∀ m, x < m → cn (fun k => ¬ upd f x 0 k = 0) m + 1 = cn (fun k => ¬ f k = 0) m
  | 0, h => by omega
  | m + 1, h => by
    unfold cn
    by_cases e : x = m
    · subst e
      have h1 : cn (fun k => ¬ upd f x 0 k = 0) x = cn (fun k => ¬ f k = 0) x := cn_congr x (fun k hk => by rw [pk_un (by omega)])
      rw [h1, if_neg (fun q => q pk_us), if_pos hx]
    · have h1 := cn_dec (f := f) hx m (by omega)
      have h2 : upd f x 0 m = f m := pk_un (fun q => e q.symm)
      rw [h2]
      omega
/-- what writes so far: their number, and what is left -/
def CT (r r' : RS) : Prop := ∃ m, R_wr r' = R_wr r + nI m ∧ mu r' + m ≤ mu r ∧ (R_down r' = 0 → m = 0 → r' = r)
theorem CT_r (r : RS) : CT r r := ⟨0, (Int32.add_zero _).symm, by omega, fun _ _ => rfl⟩
theorem CT_s {r r1 : RS} (h : CT r r1) (h0 : R_down r1 = 0) {u : RS → RS} (hu : Pl u) (hm : ∀ s : RS, R_pl s = R_pl r1 → R_kind s = R_kind r1 → mu (u s) + 1 ≤ mu r1) : CT r (rW u r1) := by
  obtain ⟨m, a1, a2, a3⟩ := h
  rw [rW_eq, if_pos h0]
  by_cases h2 : R_left r1 = 0
  · rw [if_pos h2]
    exact ⟨m, a1, a2, fun q => absurd (show (1 : Int32) = 0 from q) (by decide)⟩
  · rw [if_neg h2]
    refine ⟨m + 1, ?_, ?_, fun _ q => by omega⟩
    · rw [(hu (rG r1)).2.1]
      show R_wr r1 + 1 = _
      rw [a1, Int32.add_assoc, nI_1]
    · have := hm (rG r1) rfl rfl
      omega
theorem CT_2 (r : RS) : ∀ k, k ≤ 96 → CT r (F2 r k) ∧ (∀ m, R_wr (F2 r k) = R_wr r + nI m → True) ∧ (R_down (F2 r k) = 0 → F2 r k = r → ∀ k', k' < k → ¬ cnd r k')
  | 0, _ => ⟨CT_r r, fun _ _ => trivial, fun _ _ k' h => by omega⟩
  | k + 1, hk => by
    obtain ⟨i1, _, i3⟩ := CT_2 r k (by omega)
    have hstep : CT r (R2 k (F2 r k)) := by
      by_cases h0 : R_down (F2 r k) = 0
      · by_cases e : cnd (F2 r k) k
        · rw [R2_t e]
          obtain ⟨j, h1, _⟩ := e
          obtain ⟨v1, v2, v3, v4, n, v5, v6, v7⟩ := h1
          refine CT_s i1 h0 (Pl_P _ _ _) (fun s s1 s2 => ?_)
          have hne : ¬ R_pl (F2 r k) (8 * (k / 8) + k % 8) = 0 := by rw [v7]; exact nI_ne0 (by omega) (by omega)
          have hd := cn_dec (f := R_pl (F2 r k)) hne 96 (by omega)
          show cn (fun x => ¬ upd (R_pl s) (8 * (k / 8) + k % 8) 0 x = 0) 96 + cn (fun i => ¬ R_kind s i = 0) 12 + 1 ≤ _
          rw [s1, s2]
          unfold mu
          omega
        · rw [R2_f e]; exact i1
      · rw [R2_dead h0]; exact i1
    refine ⟨hstep, fun _ _ => trivial, ?_⟩
    show R_down (R2 k (F2 r k)) = 0 → R2 k (F2 r k) = r → _
    intro g0 ge
    by_cases h0 : R_down (F2 r k) = 0
    rotate_left
    · rw [R2_dead h0] at g0; exact absurd g0 h0
    by_cases e : cnd (F2 r k) k
    · exfalso
      rw [R2_t e] at g0 ge
      obtain ⟨j, h1, _⟩ := e
      obtain ⟨v1, v2, v3, v4, n, v5, v6, v7⟩ := h1
      obtain ⟨m, a1, a2, a3⟩ := i1
      have hc := CT_s (u := uP (k / 8) (k % 8) 0) (CT_r (F2 r k)) h0 (Pl_P _ _ _) (fun s s1 s2 => by
        have hne : ¬ R_pl (F2 r k) (8 * (k / 8) + k % 8) = 0 := by rw [v7]; exact nI_ne0 (by omega) (by omega)
        have hd := cn_dec (f := R_pl (F2 r k)) hne 96 (by omega)
        show cn (fun x => ¬ upd (R_pl s) (8 * (k / 8) + k % 8) 0 x = 0) 96 + cn (fun i => ¬ R_kind s i = 0) 12 + 1 ≤ _
        rw [s1, s2]
        unfold mu
        omega)
      obtain ⟨m', b1, b2, b3⟩ := hc
      rw [ge] at b2 b3 g0
      have hm0 : m' = 0 ∧ m = 0 := by omega
      have := b3 g0 hm0.1
      rw [rW_eq, if_pos h0] at ge
      by_cases h2 : R_left (F2 r k) = 0
      · rw [if_pos h2] at ge
        have : R_down (rF (F2 r k)) = R_down r := by rw [ge]
        exact absurd ((show (1 : Int32) = R_down r from this).trans g0) (by decide)
      · rw [if_neg h2] at ge
        have e1 : R_pl (uP (k / 8) (k % 8) 0 (rG (F2 r k))) (8 * (k / 8) + k % 8) = 0 := pk_us
        rw [ge, ← a3 h0 hm0.2, v7] at e1
        exact nI_ne0 (by omega) (by omega) e1
    · rw [R2_f e] at g0 ge
      intro k' hk'
      by_cases q : k' = k
      · rw [q]
        rw [ge] at e
        exact e
      · exact i3 g0 ge k' (by omega)
