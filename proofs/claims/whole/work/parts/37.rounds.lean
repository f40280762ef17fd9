theorem CT_t {a b c : RS} (h1 : CT a b) (h2 : CT b c) : CT a c := by
  obtain ⟨m, a1, a2, a3⟩ := h1
  obtain ⟨n, b1, b2, b3⟩ := h2
  refine ⟨m + n, ?_, by omega, fun q z => ?_⟩
  · rw [b1, a1, Int32.add_assoc, nI_add]
  · have e := b3 q (by omega)
    rw [e] at q ⊢
    exact a3 q (by omega)
theorem CT_3 (r : RS) : ∀ n, n ≤ 11 → CT r (F3 r n)
  | 0, _ => CT_r r
  | n + 1, hn => by
    have i1 := CT_3 r n (by omega)
    show CT r (R3 (n + 1) (F3 r n))
    by_cases h0 : R_down (F3 r n) = 0
    · by_cases e : cn3 (F3 r n) (n + 1)
      · rw [R3_t e]
        refine CT_s i1 h0 (Pl_K _ _) (fun s s1 s2 => ?_)
        have hd := cn_dec (f := R_kind (F3 r n)) e.1 12 (by omega)
        show cn (fun x => ¬ R_pl s x = 0) 96 + cn (fun i => ¬ upd (R_kind s) (n + 1) 0 i = 0) 12 + 1 ≤ _
        rw [s1, s2]
        unfold mu
        omega
      · rw [R3_f e]; exact i1
    · rw [R3_dead h0]; exact i1
/-- one round of both sides -/
theorem pr_rd {c : CS} {r : RS} (hZ : ZZ c r) : ∃ c1 c2 r1 r2, f_X2_clearWrongEntries c = some c1 ∧ f_X2_clearInodesWithoutEntry c1 = some c2 ∧ (∀ y1 y2, itl (fun a : Int32 × RS => b_X3_restart_53 y1 y2 a.1 a.2) 300 ((0 : Int32), r) = some r1) ∧ (∀ y1 y2, itl (fun a : Int32 × RS => b_X3_restart_143 y1 y2 a.1 a.2) 300 ((1 : Int32), r1) = some r2) ∧ ZZ c2 r2 ∧ CT r r2 ∧ (R_down r2 = 0 → r2 = r → WU (R_kind r) (R_pl r) (R_rec r)) ∧ (¬ R_down r = 0 → r2 = r) := by
  obtain ⟨c1, h1, _, h3⟩ := pr_p2 hZ 0 0
  obtain ⟨c2, g1, _, g3⟩ := pr_p3 h3 0 0
  have t2 := CT_2 r 96 (by omega)
  have t3 := CT_3 (F2 r 96) 11 (by omega)
  refine ⟨c1, c2, F2 r 96, F3 (F2 r 96) 11, h1, g1, fun y1 y2 => ?_, fun y1 y2 => ?_, g3, CT_t t2.1 t3, ?_, ?_⟩
  · obtain ⟨_, _, k2, _⟩ := pr_p2 hZ y1 y2
    exact k2
  · obtain ⟨_, _, k2, _⟩ := pr_p3 h3 y1 y2
    exact k2
  · intro q e
    have hF : F2 r 96 = r ∧ R_down (F2 r 96) = 0 := by
      obtain ⟨m, a1, a2, a3⟩ := t2.1
      obtain ⟨n, b1, b2, b3⟩ := t3
      rw [e] at b2 b3 q
      have hz : m = 0 ∧ n = 0 := by omega
      have e2 := b3 q hz.2
      have q2 : R_down (F2 r 96) = 0 := by rw [← e2]; exact q
      exact ⟨e2.symm, q2⟩
    have hnc := t2.2.2 hF.2 hF.1
    have h0 : R_down r = 0 := by rw [← hF.1]; exact hF.2
    refine ⟨hZ.2.2.2 h0, fun d' p j hE hk => ?_, fun d1 p1 d2 p2 j hE1 hE2 => ?_⟩
    · have h8 := ET_96 hE
      have hp := hE.2.1
      refine hnc (8 * d' + p) h8 ⟨j, ?_, Or.inl hk⟩
      rw [show (8 * d' + p) / 8 = d' by omega, show (8 * d' + p) % 8 = p by omega]
      exact hE
    · have q1 := ET_96 hE1
      have q2 := ET_96 hE2
      have p1' := hE1.2.1
      have p2' := hE2.2.1
      rcases Nat.lt_trichotomy (8 * d1 + p1) (8 * d2 + p2) with z | z | z
      · exfalso
        refine hnc (8 * d2 + p2) q2 ⟨j, ?_, Or.inr ⟨d1, p1, hE1, z⟩⟩
        rw [show (8 * d2 + p2) / 8 = d2 by omega, show (8 * d2 + p2) % 8 = p2 by omega]
        exact hE2
      · omega
      · exfalso
        refine hnc (8 * d1 + p1) q1 ⟨j, ?_, Or.inr ⟨d2, p2, hE2, z⟩⟩
        rw [show (8 * d1 + p1) / 8 = d1 by omega, show (8 * d1 + p1) % 8 = p1 by omega]
        exact hE1
  · intro h0
    have e1 : F2 r 96 = r := by
      have := F2_dead r 0 h0 96
      rw [Nat.zero_add] at this
      exact this
    have e2 : F3 (F2 r 96) 11 = F2 r 96 := by
      have := F3_dead (F2 r 96) 0 (by show ¬ R_down (F2 r 96) = 0; rw [e1]; exact h0) 11
      rw [Nat.zero_add] at this
      exact this
    rw [e2, e1]
theorem itl_step {α β : Type} {b : α → Option (β ⊕ α)} {a a' : α} (n : Nat) (h : b a = some (.inr a')) : itl b (n + 1) a = itl b n a' := by
  simp only [itl, h, Option.bind_some]
theorem itl_stop {α β : Type} {b : α → Option (β ⊕ α)} {a : α} {x : β} (n : Nat) (h : b a = some (.inl x)) : itl b (n + 1) a = some x := by
  simp only [itl, h, Option.bind_some]
/-- all rounds -/
theorem pr_rs {w0 : Int32} (w : Int32) : ∀ (M : Nat) (c : CS) (r : RS) (y : Int32) (n fC fR : Nat), ZZ c r → R_down r = 0 → mu r ≤ M → ¬ y = R_wr r → n + M + 1 < 120 → M + 2 < fC → M + 2 < fR →
    ∃ c' r' m, itl (fun a : Int32 × CS => b_X2_restart_22 w0 a.1 a.2) fC (nI n, c) = some c' ∧ itl (fun a : Int32 × RS => b_X3_restart_31 w a.1 a.2) fR (y, r) = some r' ∧ ZZ c' r' ∧ (R_down r' = 0 → WU (R_kind r') (R_pl r') (R_rec r')) ∧ m ≤ mu r ∧ R_wr r' = R_wr r + nI m := by
  intro M
  induction M with
  | zero =>
    intro c r y n fC fR hZ h0 hM hy hn hC hR
    obtain ⟨c1, c2, r1, r2, e1, e2, e3, e4, e5, ⟨m, m1, m2, m3⟩, e7, e8⟩ := pr_rd hZ
    obtain ⟨fC, rfl⟩ : ∃ z, fC = z + 1 := ⟨fC - 1, by omega⟩
    obtain ⟨fR, rfl⟩ : ∃ z, fR = z + 1 + 1 := ⟨fR - 2, by omega⟩
    have hm0 : m = 0 := by omega
    subst hm0
    have m1' : R_wr r2 = R_wr r := by rw [m1]; exact Int32.add_zero _
    have hcw : C_wr c2 = C_wr c := by rw [e5.1.2.2.1, hZ.1.2.2.1, m1']
    refine ⟨c2, r2, 0, ?_, ?_, e5, fun q => ?_, by omega, m1⟩
    · refine itl_stop _ ?_
      dsimp only
      unfold b_X2_restart_22
      rw [if_neg (show ¬ (120 : Int32) ≤ nI n from m_nle (N := 120) (by omega) (by omega)), e1, Option.bind_some, e2, Option.bind_some, if_pos hcw]
    · rw [itl_step (a' := (R_wr r, r2))]
      · refine itl_stop _ ?_
        dsimp only
        unfold b_X3_restart_31
        rw [if_pos m1'.symm]
      · dsimp only
        unfold b_X3_restart_31
        rw [if_neg hy, if_pos h0, e3, Option.bind_some, e4, Option.bind_some]
    · have := m3 q rfl
      rw [this] at q ⊢
      exact e7 (by rw [this]; exact q) this
  | succ M ih =>
    intro c r y n fC fR hZ h0 hM hy hn hC hR
    obtain ⟨c1, c2, r1, r2, e1, e2, e3, e4, e5, ⟨m, m1, m2, m3⟩, e7, e8⟩ := pr_rd hZ
    obtain ⟨fC, rfl⟩ : ∃ z, fC = z + 1 + 1 := ⟨fC - 2, by omega⟩
    obtain ⟨fR, rfl⟩ : ∃ z, fR = z + 1 + 1 := ⟨fR - 2, by omega⟩
    have hn120 : ¬ (120 : Int32) ≤ nI n := m_nle (N := 120) (by omega) (by omega)
    have hmu := mu_le r
    have hRs : b_X3_restart_31 w y r = some (.inr (R_wr r, r2)) := by
      unfold b_X3_restart_31
      rw [if_neg hy, if_pos h0, e3, Option.bind_some, e4, Option.bind_some]
    by_cases hm0 : m = 0
    · subst hm0
      have m1' : R_wr r2 = R_wr r := by rw [m1]; exact Int32.add_zero _
      have hcw : C_wr c2 = C_wr c := by rw [e5.1.2.2.1, hZ.1.2.2.1, m1']
      refine ⟨c2, r2, 0, ?_, ?_, e5, fun q => ?_, by omega, m1⟩
      · refine itl_stop _ ?_
        dsimp only
        unfold b_X2_restart_22
        rw [if_neg hn120, e1, Option.bind_some, e2, Option.bind_some, if_pos hcw]
      · rw [itl_step (a' := (R_wr r, r2)) _ hRs]
        refine itl_stop _ ?_
        dsimp only
        unfold b_X3_restart_31
        rw [if_pos m1'.symm]
      · have := m3 q rfl
        rw [this] at q ⊢
        exact e7 (by rw [this]; exact q) this
    · have hne : ¬ R_wr r2 = R_wr r := by
        intro q
        rw [m1] at q
        have : nI m = 0 := (Int32.add_right_inj (R_wr r)).mp (q.trans (Int32.add_zero _).symm)
        exact nI_ne0 (by omega) (by omega) this
      have hcw : ¬ C_wr c2 = C_wr c := by rw [e5.1.2.2.1, hZ.1.2.2.1]; exact hne
      have hCs : b_X2_restart_22 w0 (nI n) c = some (.inr (nI (n + 1), c2)) := by
        unfold b_X2_restart_22
        rw [if_neg hn120, e1, Option.bind_some, e2, Option.bind_some, if_neg hcw, nI_1]
      by_cases hd : R_down r2 = 0
      · obtain ⟨c', r', m', k1, k2, k3, k4, k5, k6⟩ := ih c2 r2 (R_wr r) (n + 1) (fC + 1) (fR + 1) e5 hd (by omega) (fun q => hne q.symm) (by omega) (by omega) (by omega)
        refine ⟨c', r', m + m', ?_, ?_, k3, k4, by omega, ?_⟩
        · rw [itl_step (a' := (nI (n + 1), c2)) _ hCs]; exact k1
        · rw [itl_step (a' := (R_wr r, r2)) _ hRs]; exact k2
        · rw [k6, m1, Int32.add_assoc, nI_add]
      · obtain ⟨d1, d2, s1, s2, f1, f2, f3, f4, f5, f6, f7, f8⟩ := pr_rd e5
        have hs2 := f8 hd
        subst hs2
        have hcw2 : C_wr d2 = C_wr c2 := by rw [f5.1.2.2.1, e5.1.2.2.1]
        refine ⟨d2, s2, m, ?_, ?_, f5, fun q => absurd q hd, by omega, m1⟩
        · rw [itl_step (a' := (nI (n + 1), c2)) _ hCs]
          refine itl_stop _ ?_
          dsimp only
          unfold b_X2_restart_22
          rw [if_neg (show ¬ (120 : Int32) ≤ nI (n + 1) from m_nle (N := 120) (by omega) (by omega)), f1, Option.bind_some, f2, Option.bind_some, if_pos hcw2]
        · rw [itl_step (a' := (R_wr r, s2)) _ hRs]
          refine itl_stop _ ?_
          dsimp only
          unfold b_X3_restart_31
          rw [if_neg (fun q => hne q.symm), if_neg hd]
/-- from behind THE RECORD's move on -/
theorem rs_end {c0 c : CS} {r0 r : RS} {N w : Nat} (hZ : ZZ c r) (hw : R_wr r = R_wr r0 + nI N) (hN : N ≤ 10) (hw0 : w < 2 ^ 30) (hr0 : R_wr r0 = nI w) (hc0 : C_wr c0 = R_wr r0) (hd : R_down r = 0 ∨ R_down r = 1) :
    OKi (R_wr r0) ((itl (fun a : Int32 × CS => b_X2_restart_22 (C_wr c0) a.1 a.2) 300 ((0 : Int32), c)).bind (fun ev => some (f_X2_answerOrDown (C_wr ev - C_wr c0) ev, ev)))
      ((itl (fun a : Int32 × RS => b_X3_restart_31 (R_wr r0) a.1 a.2) 300 ((-1 : Int32), r)).bind (fun ev => if R_down ev = 0 then some (R_wr ev - R_wr r0, ev) else some ((-2 : Int32), ev))) := by
  have hmu := mu_le r
  have hw1 : ¬ (-1 : Int32) = R_wr r := by
    rw [hw, hr0, nI_add]
    intro q
    exact nI_pos (n := w + N) (by omega) (by rw [← q]; decide)
  have fin : ∀ (c' : CS) (r' : RS) (m : Nat), ZZ c' r' → (R_down r' = 0 → WU (R_kind r') (R_pl r') (R_rec r')) → m ≤ 108 → R_wr r' = R_wr r + nI m →
      OKi (R_wr r0) (some (f_X2_answerOrDown (C_wr c' - C_wr c0) c', c')) (if R_down r' = 0 then some (R_wr r' - R_wr r0, r') else some ((-2 : Int32), r')) := by
    intro c' r' m hZ' hU hm hwr
    obtain ⟨⟨h1, h2, h3, h4, h5, h6, h8⟩, hI, hd', hx⟩ := hZ'
    have hcnt : ∃ m', m' ≤ 200 ∧ R_wr r' = R_wr r0 + nI m' := ⟨N + m, by omega, by rw [hwr, hw, Int32.add_assoc, nI_add]⟩
    by_cases h0 : R_down r' = 0
    · rw [if_pos h0]
      refine ⟨R_wr r' - R_wr r0, c', r', ?_, rfl, ⟨h1, h2, h3, h4, h5, h6⟩, ⟨hI, h8, hd', hU⟩, hcnt⟩
      unfold f_X2_answerOrDown
      rw [if_pos (h6.trans h0), h3, hc0]
    · rw [if_neg h0]
      refine ⟨-2, c', r', ?_, rfl, ⟨h1, h2, h3, h4, h5, h6⟩, ⟨hI, h8, hd', hU⟩, hcnt⟩
      unfold f_X2_answerOrDown
      rw [if_neg (fun q => h0 (h6.symm.trans q))]
  by_cases h0 : R_down r = 0
  · obtain ⟨c', r', m, k1, k2, k3, k4, k5, k6⟩ := pr_rs (w0 := C_wr c0) (R_wr r0) 108 c r (-1) 0 300 300 hZ h0 hmu hw1 (by omega) (by omega) (by omega)
    have k1' : itl (fun a : Int32 × CS => b_X2_restart_22 (C_wr c0) a.1 a.2) 300 ((0 : Int32), c) = some c' := k1
    rw [k1', k2, Option.bind_some, Option.bind_some]
    exact fin c' r' m k3 k4 (by omega) k6
  · obtain ⟨d1, d2, s1, s2, f1, f2, f3, f4, f5, f6, f7, f8⟩ := pr_rd hZ
    have hs2 := f8 h0
    subst hs2
    have hcw2 : C_wr d2 = C_wr c := by rw [f5.1.2.2.1, hZ.1.2.2.1]
    have k1 : itl (fun a : Int32 × CS => b_X2_restart_22 (C_wr c0) a.1 a.2) 300 ((0 : Int32), c) = some d2 := by
      refine itl_stop 299 ?_
      dsimp only
      unfold b_X2_restart_22
      rw [if_neg (show ¬ (120 : Int32) ≤ 0 by decide), f1, Option.bind_some, f2, Option.bind_some, if_pos hcw2]
    have k2 : itl (fun a : Int32 × RS => b_X3_restart_31 (R_wr r0) a.1 a.2) 300 ((-1 : Int32), s2) = some s2 := by
      refine itl_stop 299 ?_
      dsimp only
      unfold b_X3_restart_31
      rw [if_neg hw1, if_neg h0]
    rw [k1, k2, Option.bind_some, Option.bind_some]
    exact fin d2 s2 0 f5 (fun q => absurd q h0) (by omega) (Int32.add_zero _).symm
theorem mm_restart {c : CS} {r : RS} (hB : RB c r) (hI : IV r) {w : Nat} (hw0 : w < 2 ^ 30) (hr0 : R_wr r = nI w) : OKi (R_wr r) (f_X2_restart c) (f_X3_restart r) := by
  have t0 : ST (R_wr r) 0 (R_kind r) (R_size r) (R_pl r) (R_rec r) (sC_down (0 : Int32) c) (sR_down 0 r) := ⟨⟨hB.1, hB.2.1, hB.2.2.1, hB.2.2.2.1, hB.2.2.2.2.1, rfl, hI.2.1⟩, hI.1, ⟨Or.inl rfl, 0, Nat.le_refl _, (Int32.add_zero _).symm⟩, fun _ => ⟨rfl, rfl, rfl, rfl⟩⟩
  have hW := hI.1
  have hrc : f_X2_recorded (0 : Int32) (sC_down (0 : Int32) c) = R_rec r 0 := rd_r (c := sC_down (0 : Int32) c) (r := r) hB.1 (k := 0) (by omega)
  have hz0 : R_rec (sR_down (0 : Int32) r) (0 : Int32).toNatClampNeg = R_rec r 0 := rfl
  have hch : ∀ {α : Type} (k : Option α), chk (0 : Int32) 4 k = k := fun k => m_chk (n := 0) (N := 4) (by omega) (by omega) k
  have hch1 : ∀ {α : Type} (k : Option α), chk (1 : Int32) 4 k = k := fun k => m_chk (n := 1) (N := 4) (by omega) (by omega) k
  have hch2 : ∀ {α : Type} (k : Option α), chk (2 : Int32) 4 k = k := fun k => m_chk (n := 2) (N := 4) (by omega) (by omega) k
  have hch3 : ∀ {α : Type} (k : Option α), chk (3 : Int32) 4 k = k := fun k => m_chk (n := 3) (N := 4) (by omega) (by omega) k
  unfold f_X2_restart f_X3_restart
  rw [hch, hch, hz0]
  unfold f_X2_finishRecordedMove
  rw [hrc]
  have toZ : ∀ {N : Nat} {P C : NF} {c' : CS} {r' : RS}, ST (R_wr r) N (R_kind r) (R_size r) P C c' r' → C 0 = 0 → ZZ c' r' ∧ ∃ m, m ≤ N ∧ R_wr r' = R_wr r + nI m := by
    intro N P C c' r' h hc
    refine ⟨⟨h.1, h.2.1, h.2.2.1.1, fun q => ?_⟩, h.2.2.1.2⟩
    rw [(h.2.2.2 q).2.2.2]; exact hc
  rcases hW.2.2.2.2.2.2 with h0 | ⟨h12, i, p, t, hu, ht, c1, c2, c3, hf⟩
  · rw [h0, if_neg (show ¬ (0 : Int32) = 1 by decide), if_pos rfl, Option.bind_some, if_pos (show (0 : Int32) ≤ 0 by decide)]
    obtain ⟨hZ, m, m1, m2⟩ := toZ t0 h0
    exact rs_end (w := w) hZ m2 (by omega) hw0 hr0 hB.2.2.1 hZ.2.2.1
  · have hi := hu.1
    have hp := hu.2.1
    obtain ⟨b, hb, hpb⟩ := hW.2.2.2.2.1 i p hu
    have hm : MW (R_kind r) (R_size r) (R_pl r) (R_rec r) i p t b := ⟨hu, ht, hb, hpb, c1, c2, c3, hf⟩
    have z1 : R_rec (sR_down (0 : Int32) r) (1 : Int32).toNatClampNeg = nI i := c1
    have z2 : R_rec (sR_down (0 : Int32) r) (2 : Int32).toNatClampNeg = nI p := c2
    have z3 : R_rec (sR_down (0 : Int32) r) (3 : Int32).toNatClampNeg = nI t := c3
    rcases h12 with h1 | h2
    · rw [h1, if_pos rfl, if_neg (show ¬ (1 : Int32) ≤ 0 by decide)]
      obtain ⟨cc, ev, rr, n1, n2, n3, n4, n5, n6, n7⟩ := mv_copy t0 hm rfl rfl rfl h1 hW
      have g5 : WI (R_kind r) (R_size r) (R_pl r) (upd (R_rec r) 0 2) := WI_R2 hW (Or.inr rfl) hu ht c1 c2 c3 hf
      have hm5 : MW (R_kind r) (R_size r) (R_pl r) (upd (R_rec r) 0 2) i p t b := ⟨hu, ht, hb, hpb, by rw [pk_un (by omega)]; exact c1, by rw [pk_un (by omega)]; exact c2, by rw [pk_un (by omega)]; exact c3, hf⟩
      obtain ⟨a, b', o1, o2, o3⟩ := mv_link n4 hm5 (Or.inr pk_us) g5
      have hpb' : R_pl (sR_down (0 : Int32) r) (8 * i + p) = nI b := hpb
      rw [n1, Option.bind_some, if_neg (show ¬ (1 : Int32) = 0 by decide), Option.bind_some]
      unfold f_X3_move
      rw [if_neg (show ¬ (1 : Int32) = 0 by decide), hch1, hch2, hch3, if_neg (show ¬ (2 : Int32) ≤ 1 by decide), z1, z2, z3, m_ix8, m_chk (show 8 * i + p < 96 by omega) (by omega), m_cl (show 8 * i + p < 2 ^ 31 by omega), hpb', n2, Option.bind_some, n3, Option.bind_some, o1, Option.bind_some, o2, Option.bind_some]
      have hfin : (if R_down b' = 0 then some (sR_mv (R_mv b' + 1) b') else some (sR_mv (R_mv b' + 0) b')) = some (if R_down b' = 0 then sR_mv (R_mv b' + 1) b' else sR_mv (R_mv b' + 0) b') := by split <;> rfl
      rw [hfin, Option.bind_some]
      obtain ⟨hZ, m, m1, m2⟩ := toZ o3 pk_us
      exact rs_end (w := w) hZ m2 (by omega) hw0 hr0 hB.2.2.1 hZ.2.2.1
    · rw [h2, if_neg (show ¬ (2 : Int32) = 1 by decide), if_neg (show ¬ (2 : Int32) = 0 by decide), if_neg (show ¬ (2 : Int32) ≤ 0 by decide)]
      obtain ⟨a, b', o1, o2, o3⟩ := mv_link t0 hm (Or.inr h2) hW
      rw [Option.bind_some]
      unfold f_X3_move
      rw [if_neg (show ¬ (2 : Int32) = 0 by decide), hch1, hch2, hch3, if_pos (show (2 : Int32) ≤ 2 by decide), z1, z2, z3, o1, Option.bind_some, o2, Option.bind_some]
      have hfin : (if R_down b' = 0 then some (sR_mv (R_mv b' + 1) b') else some (sR_mv (R_mv b' + 0) b')) = some (if R_down b' = 0 then sR_mv (R_mv b' + 1) b' else sR_mv (R_mv b' + 0) b') := by split <;> rfl
      rw [hfin, Option.bind_some]
      obtain ⟨hZ, m, m1, m2⟩ := toZ o3 pk_us
      exact rs_end (w := w) hZ m2 (by omega) hw0 hr0 hB.2.2.1 hZ.2.2.1
