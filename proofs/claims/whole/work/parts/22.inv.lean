/-! what holds of the words at every moment, and what holds while the disk is up -/
abbrev NF : Type := Nat → Int32
def EN (x : Int32) : Prop := x = 0 ∨ ∃ j n, 1 ≤ j ∧ j < 12 ∧ 1 ≤ n ∧ n ≤ 99 ∧ x = nI (100 * j + n)
/-- place p of inode i is a block of a file -/
def US (K S : NF) (i p : Nat) : Prop := i < 12 ∧ p < 8 ∧ K i = 2 ∧ nI p < S i
/-- an entry of inode j stands at place p of the directory d -/
def ET (K P : NF) (d p j : Nat) : Prop := d < 12 ∧ p < 8 ∧ j < 12 ∧ K d = 1 ∧ ∃ n, 1 ≤ n ∧ n ≤ 99 ∧ P (8 * d + p) = nI (100 * j + n)
/-- what THE RECORD says, if it says anything -/
def RK (K S P C : NF) : Prop := C 0 = 0 ∨ ((C 0 = 1 ∨ C 0 = 2) ∧ ∃ i p t, US K S i p ∧ t < 40 ∧ C 1 = nI i ∧ C 2 = nI p ∧ C 3 = nI t ∧ ∀ j q, US K S j q → P (8 * j + q) = nI t → j = i ∧ q = p)
def WI (K S P C : NF) : Prop := (∀ i, i < 12 → K i = 0 ∨ K i = 1 ∨ K i = 2) ∧ K 0 = 1 ∧ (∀ i, i < 12 → ∃ n, n ≤ 8 ∧ S i = nI n) ∧ (∀ i p, i < 12 → p < 8 → K i = 1 → EN (P (8 * i + p))) ∧ (∀ i p, US K S i p → ∃ b, b < 40 ∧ P (8 * i + p) = nI b) ∧ (∀ i p j q, US K S i p → US K S j q → P (8 * i + p) = P (8 * j + q) → i = j ∧ p = q) ∧ RK K S P C
def WU (K P C : NF) : Prop := C 0 = 0 ∧ (∀ d p j, ET K P d p j → ¬ K j = 0) ∧ (∀ d p e q j, ET K P d p j → ET K P e q j → d = e ∧ p = q)
/-- between two calls -/
def IV (r : RS) : Prop := WI (R_kind r) (R_size r) (R_pl r) (R_rec r) ∧ LK r ∧ (R_down r = 0 ∨ R_down r = 1) ∧ (R_down r = 0 → WU (R_kind r) (R_pl r) (R_rec r))
/-- in an act: as long as it is up the words are these -/
def ST (w0 : Int32) (N : Nat) (K S P C : NF) (c : CS) (r : RS) : Prop := RA c r ∧ WI (R_kind r) (R_size r) (R_pl r) (R_rec r) ∧ ((R_down r = 0 ∨ R_down r = 1) ∧ ∃ m, m ≤ N ∧ R_wr r = w0 + nI m) ∧ (R_down r = 0 → R_kind r = K ∧ R_size r = S ∧ R_pl r = P ∧ R_rec r = C)
theorem ST_w {w0 : Int32} {N : Nat} {K S P C K' S' P' C' : NF} {c : CS} {r : RS} (h : ST w0 N K S P C c r) {a : Nat} {v : Int64} {u : RS → RS} (ha : a < 244) (hu : Pl u) (hm : Mt a v u)
    (hK : ∀ r, R_kind r = K → R_kind (u r) = K') (hS : ∀ r, R_size r = S → R_size (u r) = S') (hP : ∀ r, R_pl r = P → R_pl (u r) = P') (hC : ∀ r, R_rec r = C → R_rec (u r) = C') (hW : WI K' S' P' C') :
    ST w0 (N + 1) K' S' P' C' (f_X0_write (nI a) v c) (rW u r) := by
  obtain ⟨hA, hI, ⟨hd, m, hm1, hm2⟩, hx⟩ := h
  refine ⟨RA_w hA ha hu hm, ?_⟩
  rw [rW_eq]
  by_cases h1 : R_down r = 0
  · rw [if_pos h1]
    by_cases h2 : R_left r = 0
    · rw [if_pos h2]
      exact ⟨hI, ⟨Or.inr rfl, m, by omega, hm2⟩, fun q => absurd (show (1 : Int32) = 0 from q) (by decide)⟩
    · rw [if_neg h2]
      obtain ⟨e1, e2, e3, e4⟩ := hx h1
      have f1 := hK (rG r) e1
      have f2 := hS (rG r) e2
      have f3 := hP (rG r) e3
      have f4 := hC (rG r) e4
      have f5 : R_down (u (rG r)) = 0 := ((hu (rG r)).2.2.1).trans h1
      have f6 : R_wr (u (rG r)) = w0 + nI (m + 1) := by
        rw [(hu (rG r)).2.1]
        show R_wr r + 1 = _
        rw [hm2, Int32.add_assoc, nI_1]
      exact ⟨by rw [f1, f2, f3, f4]; exact hW, ⟨Or.inl f5, m + 1, by omega, f6⟩, fun _ => ⟨f1, f2, f3, f4⟩⟩
  · rw [if_neg h1]
    exact ⟨hI, ⟨hd, m, by omega, hm2⟩, fun q => absurd q h1⟩
theorem ST_K {w0 : Int32} {N : Nat} {K S P C : NF} {c : CS} {r : RS} (h : ST w0 N K S P C c r) {i : Nat} (hi : i < 12) (v : Int32) (hW : WI (upd K i v) S P C) : ST w0 (N + 1) (upd K i v) S P C (f_X0_write (f_X2_inodeAt (nI i) (0 : Int32)) v.toInt64 c) (rW (uK i v) r) := by
  rw [at_i0]
  exact ST_w h (by omega) (Pl_K i v) (Mt_K hi v) (fun r e => by rw [← e]; rfl) (fun r e => e) (fun r e => e) (fun r e => e) hW
theorem ST_S {w0 : Int32} {N : Nat} {K S P C : NF} {c : CS} {r : RS} (h : ST w0 N K S P C c r) {i : Nat} (hi : i < 12) (v : Int32) (hW : WI K (upd S i v) P C) : ST w0 (N + 1) K (upd S i v) P C (f_X0_write (f_X2_inodeAt (nI i) (1 : Int32)) v.toInt64 c) (rW (uS i v) r) := by
  rw [at_i1]
  exact ST_w h (by omega) (Pl_S i v) (Mt_S hi v) (fun r e => e) (fun r e => by rw [← e]; rfl) (fun r e => e) (fun r e => e) hW
theorem ST_P {w0 : Int32} {N : Nat} {K S P C : NF} {c : CS} {r : RS} (h : ST w0 N K S P C c r) {i p : Nat} (hi : i < 12) (hp : p < 8) (v : Int32) (hW : WI K S (upd P (8 * i + p) v) C) : ST w0 (N + 1) K S (upd P (8 * i + p) v) C (f_X0_write (f_X2_placeAt (nI i) (nI p)) v.toInt64 c) (rW (uP i p v) r) := by
  rw [at_p]
  exact ST_w h (by omega) (Pl_P i p v) (Mt_P hi hp v) (fun r e => e) (fun r e => e) (fun r e => by rw [← e]; rfl) (fun r e => e) hW
theorem ST_D {w0 : Int32} {N : Nat} {K S P C : NF} {c : CS} {r : RS} (h : ST w0 N K S P C c r) {b k : Nat} (hb : b < 40) (hk : k < 3) (v : Int64) (hW : WI K S P C) : ST w0 (N + 1) K S P C (f_X0_write (f_X2_dataAt (nI b) (nI k)) v c) (rW (uD b k v) r) := by
  rw [at_d]
  exact ST_w h (by omega) (Pl_D b k v) (Mt_D hb hk v) (fun r e => e) (fun r e => e) (fun r e => e) (fun r e => e) hW
theorem ST_R {w0 : Int32} {N : Nat} {K S P C : NF} {c : CS} {r : RS} (h : ST w0 N K S P C c r) {k : Nat} (hk : k < 4) (v : Int32) (hW : WI K S P (upd C k v)) : ST w0 (N + 1) K S P (upd C k v) (f_X0_write (f_X2_recordAt (nI k)) v.toInt64 c) (rW (uR k v) r) := by
  rw [at_r]
  exact ST_w h (by omega) (Pl_R k v) (Mt_R hk v) (fun r e => e) (fun r e => e) (fun r e => e) (fun r e => by rw [← e]; rfl) hW
/-- an act begins -/
theorem ST_0 {c : CS} {r : RS} (h : RB c r) (hI : IV r) (h0 : R_down r = 0) : ST (R_wr r) 0 (R_kind r) (R_size r) (R_pl r) (R_rec r) c r :=
  ⟨⟨h.1, h.2.1, h.2.2.1, h.2.2.2.1, h.2.2.2.2.1, h.2.2.2.2.2, hI.2.1⟩, hI.1, ⟨Or.inl h0, 0, Nat.le_refl _, (Int32.add_zero _).symm⟩, fun _ => ⟨rfl, rfl, rfl, rfl⟩⟩
/-- an act ends -/
theorem ST_end {w0 : Int32} {N : Nat} {K S P C : NF} {c : CS} {r : RS} (h : ST w0 N K S P C c r) (hU : WU K P C) : RB c r ∧ IV r ∧ ∃ m, m ≤ N ∧ R_wr r = w0 + nI m := by
  obtain ⟨⟨h1, h2, h3, h4, h5, h6, h8⟩, hI, hd, hx⟩ := h
  refine ⟨⟨h1, h2, h3, h4, h5, h6⟩, ⟨hI, h8, hd.1, fun q => ?_⟩, hd.2⟩
  · obtain ⟨e1, e2, e3, e4⟩ := hx q
    rw [e1, e3, e4]
    exact hU
theorem ST_le {w0 : Int32} {N M : Nat} {K S P C : NF} {c : CS} {r : RS} (h : ST w0 N K S P C c r) (hN : N ≤ M) : ST w0 M K S P C c r := by
  obtain ⟨hA, hI, ⟨hd, m, h1, h2⟩, hx⟩ := h
  exact ⟨hA, hI, ⟨hd, m, Nat.le_trans h1 hN, h2⟩, hx⟩
theorem ST_ans {w0 : Int32} {N : Nat} {K S P C : NF} {c : CS} {r : RS} (h : ST w0 N K S P C c r) (a : Int32) : f_X2_answerOrDown a c = if R_down r = 0 then a else -2 := by
  unfold f_X2_answerOrDown
  rw [h.1.2.2.2.2.2.1]
/-- an entry read -/
theorem EN_read {x : Int32} (h : EN x) : (x = 0 ∧ x / 100 = 0 ∧ x - x / 100 * 100 = 0 ∧ x ≤ 0) ∨ ∃ j n, 1 ≤ j ∧ j < 12 ∧ 1 ≤ n ∧ n ≤ 99 ∧ x = nI (100 * j + n) ∧ x / 100 = nI j ∧ x - x / 100 * 100 = nI n ∧ ¬ x ≤ 0 ∧ ¬ x = 0 := by
  rcases h with h | ⟨j, n, h1, h2, h3, h4, h⟩
  · left; subst h; decide
  · right
    refine ⟨j, n, h1, h2, h3, h4, h, ?_, ?_, ?_, ?_⟩
    · rw [h, show (100 : Int32) = nI 100 from rfl, pk_div (by omega) (by omega) (by omega)]
      congr 1; omega
    · rw [h, show (100 : Int32) = nI 100 from rfl, pk_rem (by omega) (by omega) (by omega)]
      congr 1; omega
    · rw [h]; exact nI_nle (by omega) (by omega)
    · rw [h]; exact nI_ne0 (by omega) (by omega)
