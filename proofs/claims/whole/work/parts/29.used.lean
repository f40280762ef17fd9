/-! which blocks are used: the class's bits and the reference's searches -/
theorem itl_ix {α β : Type} {b : α → Option (β ⊕ α)} (I : Nat → α → Prop) (J : β → Prop) (N : Nat)
    (hs : ∀ k a, k < N → I k a → (∃ x, b a = some (.inl x) ∧ J x) ∨ (∃ y, b a = some (.inr y) ∧ I (k + 1) y)) (he : ∀ a, I N a → ∃ x, b a = some (.inl x) ∧ J x) :
    ∀ (m k n : Nat) (a : α), k + m = N → m < n → I k a → ∃ x, itl b n a = some x ∧ J x := by
  intro m
  induction m with
  | zero =>
    intro k n a hk hn hI
    obtain ⟨n, rfl⟩ : ∃ z, n = z + 1 := ⟨n - 1, by omega⟩
    have : k = N := by omega
    subst this
    obtain ⟨x, h1, h3⟩ := he a hI
    exact ⟨x, by simp only [itl, h1, Option.bind_some], h3⟩
  | succ m ih =>
    intro k n a hk hn hI
    obtain ⟨n, rfl⟩ : ∃ z, n = z + 1 := ⟨n - 1, by omega⟩
    rcases hs k a (by omega) hI with ⟨x, h1, h3⟩ | ⟨y, h1, h3⟩
    · exact ⟨x, by simp only [itl, h1, Option.bind_some], h3⟩
    · obtain ⟨x, g1, g3⟩ := ih (k + 1) n y (by omega) (by omega) h3
      exact ⟨x, by simp only [itl, h1, Option.bind_some]; exact g1, g3⟩
/-- a block is used -/
def UB (K S P : NF) (b : Nat) : Prop := ∃ i p, US K S i p ∧ P (8 * i + p) = nI b
theorem us_m {K S P C : NF} (h : WI K S P C) {i : Nat} (hi : i < 12) : ∃ m, m ≤ 8 ∧ (∀ p, US K S i p ↔ p < m) ∧ (K i = 2 → S i = nI m) ∧ (¬ K i = 2 → m = 0) := by
  obtain ⟨n, hn, hs⟩ := h.2.2.1 i hi
  by_cases hk : K i = 2
  · refine ⟨n, hn, fun p => ⟨fun u => ?_, fun u => ?_⟩, fun _ => hs, fun q => absurd hk q⟩
    · have := u.2.2.2
      rw [hs] at this
      exact (nI_ltI (by have := u.2.1; omega) (by omega)).mp this
    · exact ⟨hi, by omega, hk, by rw [hs]; exact nI_lt u (by omega)⟩
  · exact ⟨0, by omega, fun p => ⟨fun u => absurd u.2.2.1 hk, fun u => by omega⟩, fun q => absurd q hk, fun _ => rfl⟩
theorem rd_b {c : CS} {r : RS} (hR : RW c r) {i m : Nat} (hi : i < 12) (h1 : R_kind r i = 2 → R_size r i = nI m) (h2 : ¬ R_kind r i = 2 → m = 0) : f_X2_blocksOf (nI i) c = nI m := by
  unfold f_X2_blocksOf
  rw [rd_k hR hi, rd_s hR hi]
  by_cases e : R_kind r i = 2
  · rw [if_pos e, h1 e]
  · rw [if_neg e, h2 e]; rfl
theorem pr_ub {c : CS} {r : RS} (hR : RW c r) (hW : WI (R_kind r) (R_size r) (R_pl r) (R_rec r)) : ∃ A, A < 2 ^ 40 ∧ f_X2_usedBlocks c = some (lN A) ∧ ∀ b, b < 64 → (A.testBit b = true ↔ UB (R_kind r) (R_size r) (R_pl r) b) := by
  obtain ⟨x, h1, A, hA, rfl, h2⟩ := itl_ix (b := fun a : Int64 × Int32 => b_X2_usedBlocks_4 c a.1 a.2) (fun k a => ∃ A, A < 2 ^ 40 ∧ a = (lN A, nI k) ∧ ∀ b, b < 64 → (A.testBit b = true ↔ ∃ i p, i < k ∧ US (R_kind r) (R_size r) i p ∧ R_pl r (8 * i + p) = nI b))
    (fun x => ∃ A, A < 2 ^ 40 ∧ x = lN A ∧ ∀ b, b < 64 → (A.testBit b = true ↔ UB (R_kind r) (R_size r) (R_pl r) b)) 12 (by
      rintro i a hi ⟨A, hA, rfl, hb⟩
      right
      obtain ⟨m, hm, hu, q1, q2⟩ := us_m hW hi
      obtain ⟨x, g1, A', hA', rfl, g2⟩ := itl_ix (b := fun a : Int64 × Int32 => b_X2_usedBlocks_20 (nI i) (nI m) c a.1 a.2) (fun k a => ∃ A, A < 2 ^ 40 ∧ a = (lN A, nI k) ∧ ∀ b, b < 64 → (A.testBit b = true ↔ ∃ i' p, (i' < i ∨ (i' = i ∧ p < k)) ∧ US (R_kind r) (R_size r) i' p ∧ R_pl r (8 * i' + p) = nI b))
        (fun x => ∃ A, A < 2 ^ 40 ∧ x = lN A ∧ ∀ b, b < 64 → (A.testBit b = true ↔ ∃ i' p, i' < i + 1 ∧ US (R_kind r) (R_size r) i' p ∧ R_pl r (8 * i' + p) = nI b)) m (by
          rintro p a hp ⟨A, hA, rfl, hb⟩
          right
          have hup : US (R_kind r) (R_size r) i p := (hu p).mpr hp
          obtain ⟨t, ht, hpt⟩ := hW.2.2.2.2.1 i p hup
          have hpw : 2 ^ t < 2 ^ 40 := wb_lt2 ht
          refine ⟨(lN (A ||| 2 ^ t), nI (p + 1)), ?_, A ||| 2 ^ t, Nat.or_lt_two_pow hA hpw, rfl, fun b h64 => ?_⟩
          · dsimp only
            unfold b_X2_usedBlocks_20
            rw [if_neg (m_nle hp (by omega)), rd_p hR hi (by omega), hpt, nI_1, show (1 : Int64) = lN 1 from rfl, wb_shl 1 (by omega), Nat.one_mul, wb_or (by omega) (by omega)]
          · rw [Nat.testBit_or, Nat.testBit_two_pow, Bool.or_eq_true, hb b h64, decide_eq_true_eq]
            constructor
            · rintro (⟨i', p', z1, z2, z3⟩ | z)
              · refine ⟨i', p', ?_, z2, z3⟩
                rcases z1 with z1 | ⟨z1, z4⟩
                · exact Or.inl z1
                · exact Or.inr ⟨z1, by omega⟩
              · exact ⟨i, p, Or.inr ⟨rfl, by omega⟩, hup, by rw [hpt, z]⟩
            · rintro ⟨i', p', z1, z2, z3⟩
              by_cases e : i' = i ∧ p' = p
              · right
                rw [e.1, e.2, hpt] at z3
                exact m_inj (by omega) (by omega) z3
              · left
                refine ⟨i', p', ?_, z2, z3⟩
                rcases z1 with z1 | ⟨z1, z4⟩
                · exact Or.inl z1
                · exact Or.inr ⟨z1, by omega⟩)
        (by
          rintro a ⟨A, hA, rfl, hb⟩
          refine ⟨lN A, ?_, A, hA, rfl, fun b h64 => ?_⟩
          · dsimp only
            unfold b_X2_usedBlocks_20
            rw [if_pos (Int32.le_refl _)]
          · rw [hb b h64]
            constructor
            · rintro ⟨i', p', z1, z2, z3⟩
              exact ⟨i', p', by omega, z2, z3⟩
            · rintro ⟨i', p', z1, z2, z3⟩
              by_cases e : i' = i
              · subst e
                exact ⟨i', p', Or.inr ⟨rfl, (hu p').mp z2⟩, z2, z3⟩
              · exact ⟨i', p', Or.inl (by omega), z2, z3⟩)
        m 0 300 (lN A, 0) (by omega) (by omega) ⟨A, hA, rfl, fun b h64 => by
          rw [hb b h64]
          constructor
          · rintro ⟨i', p', z1, z2, z3⟩
            exact ⟨i', p', Or.inl z1, z2, z3⟩
          · rintro ⟨i', p', z1, z2, z3⟩
            exact ⟨i', p', by omega, z2, z3⟩⟩
      refine ⟨(lN A', nI (i + 1)), ?_, A', hA', rfl, g2⟩
      dsimp only
      unfold b_X2_usedBlocks_4
      rw [if_neg (show ¬ (12 : Int32) ≤ nI i from m_nle (N := 12) hi (by omega)), rd_b hR hi q1 q2, g1, Option.bind_some, nI_1])
    (by
      rintro a ⟨A, hA, rfl, hb⟩
      refine ⟨lN A, ?_, A, hA, rfl, fun b h64 => ?_⟩
      · dsimp only
        unfold b_X2_usedBlocks_4
        rw [if_pos (show (12 : Int32) ≤ nI 12 from Int32.le_refl _)]
      · rw [hb b h64]
        constructor
        · rintro ⟨i', p', z1, z2, z3⟩
          exact ⟨i', p', z2, z3⟩
        · rintro ⟨i', p', z2, z3⟩
          exact ⟨i', p', z2.1, z2, z3⟩)
    12 0 300 (0, 0) rfl (by omega) ⟨0, by decide, rfl, fun b h64 => by
      rw [Nat.zero_testBit]
      constructor
      · intro h; exact absurd h (by decide)
      · rintro ⟨i', p', z1, _⟩; omega⟩
  refine ⟨A, hA, ?_, h2⟩
  unfold f_X2_usedBlocks
  rw [h1, Option.bind_some]
/-- one bit of them -/
theorem ub_t {A b : Nat} (hA : A < 2 ^ 40) (hb : b < 62) : f_X2_isUsed (lN A) (nI b) = 0 ↔ A.testBit b = false := by
  unfold f_X2_isUsed
  have e1 : lN A >>> ((nI b).toInt64 &&& 63) = lN (A / 2 ^ b) := by
    rw [wb_c b (by omega)]
    refine pf_shr ?_ (by omega)
    rw [wb_tb, wb_sm b (by omega), BitVec.toNat_ofNat, Nat.mod_eq_of_lt (by omega)]
  have hd : A / 2 ^ b ≤ A := Nat.div_le_self _ _
  rw [e1, wb_a1 (by omega), Nat.testBit_eq_decide_div_mod_eq]
  have h2 : A / 2 ^ b % 2 = 0 ∨ A / 2 ^ b % 2 = 1 := by omega
  rcases h2 with h | h
  · rw [h]; decide
  · rw [h]; decide
theorem pr_iu (r : RS) (hW : WI (R_kind r) (R_size r) (R_pl r) (R_rec r)) (b : Int32) : (f_X3_isUsed b r = some 1 ∧ ∃ i p, US (R_kind r) (R_size r) i p ∧ R_pl r (8 * i + p) = b) ∨ (f_X3_isUsed b r = some 0 ∧ ∀ i p, US (R_kind r) (R_size r) i p → ¬ R_pl r (8 * i + p) = b) := by
  obtain ⟨x, h1, hJ⟩ := itl_ix (b := fun a : Int32 => b_X3_isUsed_2 b r a) (fun k a => a = nI k ∧ ∀ i p, i < k → US (R_kind r) (R_size r) i p → ¬ R_pl r (8 * i + p) = b)
    (fun x => (x = .inl 1 ∧ ∃ i p, US (R_kind r) (R_size r) i p ∧ R_pl r (8 * i + p) = b) ∨ (x = .inr () ∧ ∀ i p, US (R_kind r) (R_size r) i p → ¬ R_pl r (8 * i + p) = b)) 12 (by
      rintro i a hi ⟨rfl, hb⟩
      obtain ⟨m, hm, hu, q1, q2⟩ := us_m hW hi
      have hEnd : ∀ p, m ≤ p → b_X3_isUsed_10 b (nI i) r (nI p) = some (.inl (.inr ())) ∨ 2 ^ 31 ≤ p := by
        intro p hp
        by_cases h31 : p < 2 ^ 31
        · left
          unfold b_X3_isUsed_10
          rw [m_chk hi (by omega), m_cl (by omega)]
          by_cases e : R_kind r i = 2
          · rw [if_pos e, m_chk hi (by omega), q1 e, if_pos (nI_le hp h31)]
          · rw [if_neg e]
        · right; omega
      obtain ⟨x, g1, gJ⟩ := itl_ix (b := fun a : Int32 => b_X3_isUsed_10 b (nI i) r a) (fun k a => a = nI k ∧ ∀ p, p < k → ¬ R_pl r (8 * i + p) = b)
        (fun x => (x = .inl 1 ∧ ∃ p, US (R_kind r) (R_size r) i p ∧ R_pl r (8 * i + p) = b) ∨ (x = .inr () ∧ ∀ p, US (R_kind r) (R_size r) i p → ¬ R_pl r (8 * i + p) = b)) m (by
          rintro p a hp ⟨rfl, hq⟩
          have hup := (hu p).mpr hp
          have hk := hup.2.2.1
          have hE : b_X3_isUsed_10 b (nI i) r (nI p) = if R_pl r (8 * i + p) = b then some (.inl (.inl 1)) else some (.inr (nI (p + 1))) := by
            unfold b_X3_isUsed_10
            rw [m_chk hi (by omega), m_cl (show i < 2 ^ 31 by omega), if_pos hk, m_chk hi (by omega), q1 hk, if_neg (m_nle hp (by omega)), m_ix8, m_chk (show 8 * i + p < 96 by omega) (by omega), m_cl (by omega), nI_1]
          by_cases e : R_pl r (8 * i + p) = b
          · left
            exact ⟨.inl 1, by rw [hE, if_pos e], Or.inl ⟨rfl, p, hup, e⟩⟩
          · right
            refine ⟨nI (p + 1), by rw [hE, if_neg e], rfl, fun q hq' => ?_⟩
            by_cases z : q = p
            · rw [z]; exact e
            · exact hq q (by omega))
        (by
          rintro a ⟨rfl, hq⟩
          rcases hEnd m (Nat.le_refl _) with z | z
          · exact ⟨.inr (), z, Or.inr ⟨rfl, fun p hp => hq p ((hu p).mp hp)⟩⟩
          · omega)
        m 0 300 0 (by omega) (by omega) ⟨rfl, fun p hp => by omega⟩
      have hE : b_X3_isUsed_2 b r (nI i) = Sum.elim (fun v => some (.inl (.inl v))) (fun _ => some (.inr (nI (i + 1)))) x := by
        unfold b_X3_isUsed_2
        rw [if_neg (show ¬ (12 : Int32) ≤ nI i from m_nle (N := 12) hi (by omega)), g1, Option.bind_some, nI_1]
      rcases gJ with ⟨rfl, p, z1, z2⟩ | ⟨rfl, z⟩
      · left
        exact ⟨.inl 1, hE, Or.inl ⟨rfl, i, p, z1, z2⟩⟩
      · right
        refine ⟨nI (i + 1), hE, rfl, fun i' p' h1 h2 => ?_⟩
        by_cases e : i' = i
        · subst e; exact z p' h2
        · exact hb i' p' (by omega) h2)
    (by
      rintro a ⟨rfl, hb⟩
      refine ⟨.inr (), ?_, Or.inr ⟨rfl, fun i p hu => hb i p hu.1 hu⟩⟩
      unfold b_X3_isUsed_2
      rw [if_pos (show (12 : Int32) ≤ nI 12 from Int32.le_refl _)])
    12 0 300 0 rfl (by omega) ⟨rfl, fun i p h => by omega⟩
  unfold f_X3_isUsed
  rw [h1, Option.bind_some]
  rcases hJ with ⟨rfl, z⟩ | ⟨rfl, z⟩
  · exact Or.inl ⟨rfl, z⟩
  · exact Or.inr ⟨rfl, z⟩
