/-! the two states side by side -/
def RW (c : CS) (r : RS) : Prop := (∀ i, i < 12 → C_ws c (10 * i) = (R_kind r i).toInt64) ∧ (∀ i, i < 12 → C_ws c (10 * i + 1) = (R_size r i).toInt64) ∧ (∀ i p, i < 12 → p < 8 → C_ws c (10 * i + 2 + p) = (R_pl r (8 * i + p)).toInt64) ∧ (∀ j, j < 120 → C_ws c (120 + j) = R_ws r j) ∧ (∀ k, k < 4 → C_ws c (240 + k) = (R_rec r k).toInt64)
/-- the power that is left is as cut() takes it -/
def LK (r : RS) : Prop := R_left r = -3 ∨ ∃ k, k ≤ 40 ∧ R_left r = nI k
/-- between two calls -/
def RB (c : CS) (r : RS) : Prop := RW c r ∧ C_left c = R_left r ∧ C_wr c = R_wr r ∧ C_mv c = R_mv r ∧ C_asked c = R_lat r ∧ C_down c = R_down r
/-- in an act -/
def RA (c : CS) (r : RS) : Prop := RW c r ∧ C_left c = R_left r ∧ C_wr c = R_wr r ∧ C_mv c = R_mv r ∧ C_asked c = R_lat r ∧ C_down c = R_down r ∧ LK r
theorem at_i0 (i : Nat) : f_X2_inodeAt (nI i) (0 : Int32) = nI (10 * i) := by
  unfold f_X2_inodeAt
  rw [show (0 : Int32) = nI 0 from rfl, m_ix10, Nat.add_zero]
theorem at_i1 (i : Nat) : f_X2_inodeAt (nI i) (1 : Int32) = nI (10 * i + 1) := by
  unfold f_X2_inodeAt
  rw [show (1 : Int32) = nI 1 from rfl, m_ix10]
theorem at_iw (i w : Nat) : f_X2_inodeAt (nI i) (nI w) = nI (10 * i + w) := by
  unfold f_X2_inodeAt
  rw [m_ix10]
theorem at_p (i p : Nat) : f_X2_placeAt (nI i) (nI p) = nI (10 * i + 2 + p) := by
  unfold f_X2_placeAt
  rw [show (2 : Int32) = nI 2 from rfl, nI_add, at_iw, Nat.add_assoc]
theorem at_d (b k : Nat) : f_X2_dataAt (nI b) (nI k) = nI (120 + (3 * b + k)) := by
  unfold f_X2_dataAt
  rw [show (120 : Int32) = nI 120 from rfl, show (3 : Int32) = nI 3 from rfl, pk_mul, nI_add, nI_add, Nat.mul_comm b 3, Nat.add_assoc]
theorem at_r (k : Nat) : f_X2_recordAt (nI k) = nI (240 + k) := by
  unfold f_X2_recordAt
  rw [show (240 : Int32) = nI 240 from rfl, nI_add]
theorem rd_w (c : CS) {a : Nat} (h : a < 244) : f_X0_word (nI a) c = C_ws c a := by
  unfold f_X0_word
  rw [if_neg (nI_pos (by omega)), if_neg (show ¬ (244 : Int32) ≤ nI a from nI_ge (a := a) (b := 244) h (by omega)), nI_clamp (by omega)]
theorem rd_k {c : CS} {r : RS} (h : RW c r) {i : Nat} (hi : i < 12) : f_X2_kindOf (nI i) c = R_kind r i := by
  unfold f_X2_kindOf
  rw [at_i0, rd_w c (by omega), h.1 i hi, Int32.toInt32_toInt64]
theorem rd_s {c : CS} {r : RS} (h : RW c r) {i : Nat} (hi : i < 12) : f_X2_sizeOf (nI i) c = R_size r i := by
  unfold f_X2_sizeOf
  rw [at_i1, rd_w c (by omega), h.2.1 i hi, Int32.toInt32_toInt64]
theorem rd_p {c : CS} {r : RS} (h : RW c r) {i p : Nat} (hi : i < 12) (hp : p < 8) : f_X2_placeOf (nI i) (nI p) c = R_pl r (8 * i + p) := by
  unfold f_X2_placeOf
  rw [at_p, rd_w c (by omega), h.2.2.1 i p hi hp, Int32.toInt32_toInt64]
theorem rd_d {c : CS} {r : RS} (h : RW c r) {b k : Nat} (hb : b < 40) (hk : k < 3) : f_X0_word (f_X2_dataAt (nI b) (nI k)) c = R_ws r (3 * b + k) := by
  rw [at_d, rd_w c (by omega), h.2.2.2.1 _ (by omega)]
theorem rd_r {c : CS} {r : RS} (h : RW c r) {k : Nat} (hk : k < 4) : f_X2_recorded (nI k) c = R_rec r k := by
  unfold f_X2_recorded
  rw [at_r, rd_w c (by omega), h.2.2.2.2 k hk, Int32.toInt32_toInt64]
/-- one write of the reference -/
def rW (u : RS → RS) (r : RS) : RS := if (f_X3_power r).1 = 0 then (f_X3_power r).2 else u (f_X3_power r).2
def uK (i : Nat) (v : Int32) (r : RS) : RS := sR_kind (upd (R_kind r) i v) r
def uS (i : Nat) (v : Int32) (r : RS) : RS := sR_size (upd (R_size r) i v) r
def uP (i p : Nat) (v : Int32) (r : RS) : RS := sR_pl (upd (R_pl r) (8 * i + p) v) r
def uD (b k : Nat) (v : Int64) (r : RS) : RS := sR_ws (vp_updL (R_ws r) (3 * b + k) v) r
def uR (k : Nat) (v : Int32) (r : RS) : RS := sR_rec (upd (R_rec r) k v) r
theorem w_K (r : RS) (v : Int32) {i : Nat} (hi : i < 12) : f_X3_setKind (nI i) v r = some (rW (uK i v) r) := by
  unfold f_X3_setKind rW uK
  rw [m_chk hi (by omega), nI_clamp (by omega)]
  split <;> rfl
theorem w_S (r : RS) (v : Int32) {i : Nat} (hi : i < 12) : f_X3_setSize (nI i) v r = some (rW (uS i v) r) := by
  unfold f_X3_setSize rW uS
  rw [m_chk hi (by omega), nI_clamp (by omega)]
  split <;> rfl
theorem w_P (r : RS) (v : Int32) {i p : Nat} (hi : i < 12) (hp : p < 8) : f_X3_setPlace (nI i) (nI p) v r = some (rW (uP i p v) r) := by
  unfold f_X3_setPlace rW uP
  rw [m_ix8, m_chk (show 8 * i + p < 96 by omega) (by omega), nI_clamp (by omega)]
  split <;> rfl
theorem w_D (r : RS) (v : Int64) {b k : Nat} (hb : b < 40) (hk : k < 3) : f_X3_setData (nI b) (nI k) v r = some (rW (uD b k v) r) := by
  unfold f_X3_setData rW uD
  rw [m_ix3, m_chk (show 3 * b + k < 120 by omega) (by omega), nI_clamp (by omega)]
  split <;> rfl
theorem w_R (r : RS) (v : Int32) {k : Nat} (hk : k < 4) : f_X3_setRecord (nI k) v r = some (rW (uR k v) r) := by
  unfold f_X3_setRecord rW uR
  rw [m_chk hk (by omega), nI_clamp (by omega)]
  split <;> rfl
/-- an update of words alone -/
def Pl (u : RS → RS) : Prop := ∀ r, R_left (u r) = R_left r ∧ R_wr (u r) = R_wr r ∧ R_down (u r) = R_down r ∧ R_mv (u r) = R_mv r ∧ R_lat (u r) = R_lat r
/-- the class's word a becoming v is the reference's update u -/
def Mt (a : Nat) (v : Int64) (u : RS → RS) : Prop := ∀ c r, RW c r → RW (sC_ws (vp_updL (C_ws c) a v) c) (u r)
theorem RW_pow {c : CS} {r r' : RS} (h : RW c r) (h1 : R_kind r' = R_kind r) (h2 : R_size r' = R_size r) (h3 : R_pl r' = R_pl r) (h4 : R_ws r' = R_ws r) (h5 : R_rec r' = R_rec r) : RW c r' := by
  unfold RW at *
  rw [h1, h2, h3, h4, h5]
  exact h
theorem Mt_K {i : Nat} (hi : i < 12) (v : Int32) : Mt (10 * i) v.toInt64 (uK i v) := by
  intro c r ⟨h1, h2, h3, h4, h5⟩
  refine ⟨fun j hj => ?_, fun j hj => ?_, fun j p hj hp => ?_, fun j hj => ?_, fun k hk => ?_⟩
  · show vp_updL (C_ws c) (10 * i) v.toInt64 (10 * j) = (upd (R_kind r) i v j).toInt64
    by_cases e : j = i
    · rw [e, pk_uLs, pk_us]
    · rw [pk_uLn (by omega), pk_un e]; exact h1 j hj
  · show vp_updL (C_ws c) (10 * i) v.toInt64 (10 * j + 1) = _
    rw [pk_uLn (by omega)]; exact h2 j hj
  · show vp_updL (C_ws c) (10 * i) v.toInt64 (10 * j + 2 + p) = _
    rw [pk_uLn (by omega)]; exact h3 j p hj hp
  · show vp_updL (C_ws c) (10 * i) v.toInt64 (120 + j) = _
    rw [pk_uLn (by omega)]; exact h4 j hj
  · show vp_updL (C_ws c) (10 * i) v.toInt64 (240 + k) = _
    rw [pk_uLn (by omega)]; exact h5 k hk
theorem Mt_S {i : Nat} (hi : i < 12) (v : Int32) : Mt (10 * i + 1) v.toInt64 (uS i v) := by
  intro c r ⟨h1, h2, h3, h4, h5⟩
  refine ⟨fun j hj => ?_, fun j hj => ?_, fun j p hj hp => ?_, fun j hj => ?_, fun k hk => ?_⟩
  · show vp_updL (C_ws c) (10 * i + 1) v.toInt64 (10 * j) = _
    rw [pk_uLn (by omega)]; exact h1 j hj
  · show vp_updL (C_ws c) (10 * i + 1) v.toInt64 (10 * j + 1) = (upd (R_size r) i v j).toInt64
    by_cases e : j = i
    · rw [e, pk_uLs, pk_us]
    · rw [pk_uLn (by omega), pk_un e]; exact h2 j hj
  · show vp_updL (C_ws c) (10 * i + 1) v.toInt64 (10 * j + 2 + p) = _
    rw [pk_uLn (by omega)]; exact h3 j p hj hp
  · show vp_updL (C_ws c) (10 * i + 1) v.toInt64 (120 + j) = _
    rw [pk_uLn (by omega)]; exact h4 j hj
  · show vp_updL (C_ws c) (10 * i + 1) v.toInt64 (240 + k) = _
    rw [pk_uLn (by omega)]; exact h5 k hk
theorem Mt_P {i q : Nat} (hi : i < 12) (hq : q < 8) (v : Int32) : Mt (10 * i + 2 + q) v.toInt64 (uP i q v) := by
  intro c r ⟨h1, h2, h3, h4, h5⟩
  refine ⟨fun j hj => ?_, fun j hj => ?_, fun j p hj hp => ?_, fun j hj => ?_, fun k hk => ?_⟩
  · show vp_updL (C_ws c) (10 * i + 2 + q) v.toInt64 (10 * j) = _
    rw [pk_uLn (by omega)]; exact h1 j hj
  · show vp_updL (C_ws c) (10 * i + 2 + q) v.toInt64 (10 * j + 1) = _
    rw [pk_uLn (by omega)]; exact h2 j hj
  · show vp_updL (C_ws c) (10 * i + 2 + q) v.toInt64 (10 * j + 2 + p) = (upd (R_pl r) (8 * i + q) v (8 * j + p)).toInt64
    by_cases e : 8 * j + p = 8 * i + q
    · have e1 : j = i := by omega
      have e2 : p = q := by omega
      rw [e1, e2, pk_uLs, pk_us]
    · rw [pk_uLn (by omega), pk_un e]; exact h3 j p hj hp
  · show vp_updL (C_ws c) (10 * i + 2 + q) v.toInt64 (120 + j) = _
    rw [pk_uLn (by omega)]; exact h4 j hj
  · show vp_updL (C_ws c) (10 * i + 2 + q) v.toInt64 (240 + k) = _
    rw [pk_uLn (by omega)]; exact h5 k hk
theorem Mt_D {b q : Nat} (hb : b < 40) (hq : q < 3) (v : Int64) : Mt (120 + (3 * b + q)) v (uD b q v) := by
  intro c r ⟨h1, h2, h3, h4, h5⟩
  refine ⟨fun j hj => ?_, fun j hj => ?_, fun j p hj hp => ?_, fun j hj => ?_, fun k hk => ?_⟩
  · show vp_updL (C_ws c) (120 + (3 * b + q)) v (10 * j) = _
    rw [pk_uLn (by omega)]; exact h1 j hj
  · show vp_updL (C_ws c) (120 + (3 * b + q)) v (10 * j + 1) = _
    rw [pk_uLn (by omega)]; exact h2 j hj
  · show vp_updL (C_ws c) (120 + (3 * b + q)) v (10 * j + 2 + p) = _
    rw [pk_uLn (by omega)]; exact h3 j p hj hp
  · show vp_updL (C_ws c) (120 + (3 * b + q)) v (120 + j) = vp_updL (R_ws r) (3 * b + q) v j
    by_cases e : j = 3 * b + q
    · rw [e, pk_uLs, pk_uLs]
    · rw [pk_uLn (by omega), pk_uLn e]; exact h4 j hj
  · show vp_updL (C_ws c) (120 + (3 * b + q)) v (240 + k) = _
    rw [pk_uLn (by omega)]; exact h5 k hk
theorem Mt_R {q : Nat} (hq : q < 4) (v : Int32) : Mt (240 + q) v.toInt64 (uR q v) := by
  intro c r ⟨h1, h2, h3, h4, h5⟩
  refine ⟨fun j hj => ?_, fun j hj => ?_, fun j p hj hp => ?_, fun j hj => ?_, fun k hk => ?_⟩
  · show vp_updL (C_ws c) (240 + q) v.toInt64 (10 * j) = _
    rw [pk_uLn (by omega)]; exact h1 j hj
  · show vp_updL (C_ws c) (240 + q) v.toInt64 (10 * j + 1) = _
    rw [pk_uLn (by omega)]; exact h2 j hj
  · show vp_updL (C_ws c) (240 + q) v.toInt64 (10 * j + 2 + p) = _
    rw [pk_uLn (by omega)]; exact h3 j p hj hp
  · show vp_updL (C_ws c) (240 + q) v.toInt64 (120 + j) = _
    rw [pk_uLn (by omega)]; exact h4 j hj
  · show vp_updL (C_ws c) (240 + q) v.toInt64 (240 + k) = (upd (R_rec r) q v k).toInt64
    by_cases e : k = q
    · rw [e, pk_uLs, pk_us]
    · rw [pk_uLn (by omega), pk_un e]; exact h5 k hk
/-- what one write does to the reference: nothing (it is down), or the power fails, or it is done -/
def rF (r : RS) : RS := sR_left (-3) (sR_down 1 r)
def rG (r : RS) : RS := sR_wr (R_wr r + 1) (sR_left (if R_left r ≤ 0 then R_left r else R_left r - 1) r)
theorem rW_eq (u : RS → RS) (r : RS) : rW u r = if R_down r = 0 then (if R_left r = 0 then rF r else u (rG r)) else r := by
  unfold rW f_X3_power rF rG
  by_cases h1 : R_down r = 0
  · rw [if_pos h1, if_pos h1]
    by_cases h2 : R_left r = 0
    · rw [if_pos h2, if_pos h2]
      rw [if_pos rfl]
    · rw [if_neg h2, if_neg h2]
      by_cases h3 : R_left r ≤ 0
      · simp only [if_pos h3]
        rw [if_neg (by decide), Int32.sub_zero]
        rfl
      · simp only [if_neg h3]
        rw [if_neg (by decide)]
        rfl
  · rw [if_neg h1, if_neg h1, if_pos rfl]
/-- the class's write, at a word that is there -/
theorem cW_eq (c : CS) (v : Int64) {a : Nat} (ha : a < 244) : f_X0_write (nI a) v c = if C_down c = 0 then (if C_left c = 0 then sC_left (-3) (sC_down 1 c) else sC_wr (C_wr c + 1) (sC_ws (vp_updL (C_ws c) a v) (sC_left (if C_left c = -3 then C_left c else C_left c - 1) c))) else c := by
  unfold f_X0_write
  rw [if_neg (nI_pos (show a < 2 ^ 31 by omega)), if_pos (show nI a < (244 : Int32) from nI_lt (a := a) (b := 244) ha (by omega)), nI_clamp (by omega)]
  by_cases h1 : C_down c = 0
  · rw [if_pos h1, if_pos h1]
    by_cases h2 : C_left c = 0
    · rw [if_pos h2, if_pos h2]
    · rw [if_neg h2, if_neg h2]
      by_cases h3 : C_left c = -3
      · rw [if_pos h3, if_pos h3]
        rfl
      · rw [if_neg h3, if_neg h3]
        rfl
  · rw [if_neg h1, if_neg h1]
theorem LK_G {r : RS} (h : LK r) (h0 : ¬ R_left r = 0) : LK (rG r) ∧ (if R_left r ≤ 0 then R_left r else R_left r - 1) = (if R_left r = -3 then R_left r else R_left r - 1) := by
  unfold LK rG
  rcases h with h | ⟨k, hk, h⟩
  · refine ⟨Or.inl ?_, ?_⟩
    · show (if R_left r ≤ 0 then R_left r else R_left r - 1) = -3
      rw [h]; decide
    · rw [h]; decide
  · have hk0 : k ≠ 0 := fun e => h0 (by rw [h, e]; rfl)
    obtain ⟨j, rfl⟩ : ∃ j, k = j + 1 := ⟨k - 1, by omega⟩
    have e1 : ¬ R_left r ≤ 0 := by rw [h]; exact nI_nle (by omega) (by omega)
    have e2 : ¬ R_left r = -3 := by
      rw [h]; intro e
      exact nI_pos (n := j + 1) (by omega) (by rw [e]; decide)
    refine ⟨Or.inr ⟨j, by omega, ?_⟩, ?_⟩
    · show (if R_left r ≤ 0 then R_left r else R_left r - 1) = nI j
      rw [if_neg e1, h, nI_pred]
    · rw [if_neg e1, if_neg e2]
/-- a write of both sides -/
theorem RA_w {c : CS} {r : RS} (h : RA c r) {a : Nat} {v : Int64} {u : RS → RS} (ha : a < 244) (hu : Pl u) (hm : Mt a v u) : RA (f_X0_write (nI a) v c) (rW u r) := by
  obtain ⟨hw, hl, hwr, hmv, has, hf, hk⟩ := h
  rw [rW_eq, cW_eq c v ha]
  by_cases h1 : R_down r = 0
  · rw [if_pos h1, if_pos (hf.trans h1)]
    by_cases h2 : R_left r = 0
    · rw [if_pos h2, if_pos (hl.trans h2)]
      exact ⟨hw, rfl, hwr, hmv, has, rfl, Or.inl rfl⟩
    · rw [if_neg h2, if_neg (fun e => h2 (hl.symm.trans e))]
      obtain ⟨hk1, he⟩ := LK_G hk h2
      obtain ⟨p1, p2, p3, p4, p5⟩ := hu (rG r)
      refine ⟨?_, ?_, ?_, ?_, ?_, ?_, ?_⟩
      · exact hm (sC_wr (C_wr c + 1) (sC_left (if C_left c = -3 then C_left c else C_left c - 1) c)) (rG r) (RW_pow (r := r) hw rfl rfl rfl rfl rfl)
      · rw [p1]
        show (if C_left c = -3 then C_left c else C_left c - 1) = (if R_left r ≤ 0 then R_left r else R_left r - 1)
        rw [he, hl]
      · rw [p2]
        show C_wr c + 1 = R_wr r + 1
        rw [hwr]
      · rw [p4]; exact hmv
      · rw [p5]; exact has
      · rw [p3]; exact hf
      · unfold LK; rw [p1]; exact hk1
  · rw [if_neg h1, if_neg (fun e => h1 (hf.symm.trans e))]
    exact ⟨hw, hl, hwr, hmv, has, hf, hk⟩
theorem Pl_K (i : Nat) (v : Int32) : Pl (uK i v) := fun _ => ⟨rfl, rfl, rfl, rfl, rfl⟩
theorem Pl_S (i : Nat) (v : Int32) : Pl (uS i v) := fun _ => ⟨rfl, rfl, rfl, rfl, rfl⟩
theorem Pl_P (i p : Nat) (v : Int32) : Pl (uP i p v) := fun _ => ⟨rfl, rfl, rfl, rfl, rfl⟩
theorem Pl_D (b k : Nat) (v : Int64) : Pl (uD b k v) := fun _ => ⟨rfl, rfl, rfl, rfl, rfl⟩
theorem Pl_R (k : Nat) (v : Int32) : Pl (uR k v) := fun _ => ⟨rfl, rfl, rfl, rfl, rfl⟩
