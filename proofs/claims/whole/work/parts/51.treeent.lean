/-- the reference's step over an entry -/
theorem t_ent {r : RS} {dp d nm p j nn : Nat} (hdp : dp ≤ 11) (hd : d < 12) (ho : R_op r dp = nI d) (hl : R_ln r dp = nI nm) (hn : f_X3_nextEntry (nI d) (nI nm) r = some (nI p)) (hp : p < 8) (hj : j < 12) (hnn : nn ≤ 99) (hP : R_pl r (8 * d + p) = nI (100 * j + nn)) (h : Int64) (m : Int32) :
    b_X3_tree_23 h m (nI (dp + 1)) r = if R_kind (rL dp nn r) j = 0 then some (.inr (h, m, nI (dp + 1), rL dp nn r)) else if ((m >>> (nI j &&& 31)) &&& 1) = 0 then (if R_kind (rL dp nn r) j = 1 then chk (nI (dp + 1)) 12 (chk (nI (dp + 1)) 12 (some (.inr (31 * (31 * h + (nI nn).toInt64) + 1, m ||| ((1 : Int32) <<< (nI j &&& 31)), nI (dp + 1 + 1), rP (dp + 1) j (rL dp nn r))))) else ((itl (fun a : Int64 × Int32 => b_X3_tree_220 (m ||| ((1 : Int32) <<< (nI j &&& 31))) (nI (dp + 1)) (nI j) (rL dp nn r) a.1 a.2) 300 (31 * (31 * (31 * h + (nI nn).toInt64) + 2) + (R_size (rL dp nn r) j).toInt64, (0 : Int32))).bind (fun ev => some (.inr (ev, m ||| ((1 : Int32) <<< (nI j &&& 31)), nI (dp + 1), rL dp nn r))))) else some (.inr (h, m, nI (dp + 1), rL dp nn r)) := by
  unfold b_X3_tree_23
  rw [if_neg (nI_nle (by omega) (by omega)), t_s1, m_chk (show dp < 12 by omega) (by omega), m_chk (show dp < 12 by omega) (by omega), m_cl (show dp < 2 ^ 31 by omega), ho, hl, hn, Option.bind_some, if_pos (nI_pos' (show p < 2 ^ 31 by omega)), m_ix8, m_chk (show 8 * d + p < 96 by omega) (by omega), m_cl (show 8 * d + p < 2 ^ 31 by omega), hP, m_chk (show dp < 12 by omega) (by omega), (nE_c hj hnn).2, (nE_c hj hnn).1, m_cl (show j < 2 ^ 31 by omega), m_chk hj (by omega), m_chk hj (by omega), m_chk hj (by omega), m_cl (show dp + 1 < 2 ^ 31 by omega), nI_1]
  rfl
theorem m_meet {c : CS} {r : RS} (hR : RW c r) {j : Nat} (hj : j < 12) : f_X2_meet (nI j) c = if R_kind r j = 0 then (0, c) else if bt (C_met c) j = true then (0, c) else (1, sC_met (C_met c ||| ((1 : Int32) <<< (nI j &&& 31))) c) := by
  unfold f_X2_meet
  rw [rd_k hR hj]
  by_cases h0 : R_kind r j = 0
  · rw [if_pos h0, if_pos h0]
  · rw [if_neg h0, if_neg h0]
    by_cases h1 : bt (C_met c) j = true
    · rw [if_pos h1, if_pos ((bt_t _ (by omega)).1.mpr h1)]
    · rw [if_neg h1, if_neg (fun q => h1 ((bt_t _ (by omega)).1.mp q))]
theorem c_ent (hI : Int64 → Int32 → Int32 → CS → Option (Int64 × CS)) (dd dv : Int32) (h : Int64) {j nn kk : Nat} (hj1 : 1 ≤ j) (hj : j < 12) (hnn : nn ≤ 99) (hk : kk < 8) (c : CS) :
    b_X2_hashOfDirectory_20 hI dd dv h (nI (100 * j + nn)) (nI kk) c = if (f_X2_meet (nI j) c).1 = 0 then (f_X2_entryBehindName dd (nI nn) (f_X2_meet (nI j) c).2).bind (fun z => some (.inr (h, z, nI (kk + 1), (f_X2_meet (nI j) c).2))) else (hI (31 * h + (nI nn).toInt64) (nI j) (dv + 1) (f_X2_meet (nI j) c).2).bind (fun z => (f_X2_entryBehindName dd (nI nn) z.2).bind (fun z7 => some (.inr (z.1, z7, nI (kk + 1), z.2)))) := by
  unfold b_X2_hashOfDirectory_20 f_X2_inodeOfEntry f_X2_nameOfEntry
  rw [if_neg (show ¬ (8 : Int32) ≤ nI kk from m_nle (N := 8) hk (by omega)), if_neg (show ¬ nI (100 * j + nn) = 0 from nI_ne0 (by omega) (by omega)), (nE_c hj hnn).2, (nE_c hj hnn).1, nI_1]
theorem c_end (hI : Int64 → Int32 → Int32 → CS → Option (Int64 × CS)) (dd dv : Int32) (h : Int64) (kv : Int32) (c : CS) : b_X2_hashOfDirectory_20 hI dd dv h 0 kv c = some (.inl (h, c)) := by
  unfold b_X2_hashOfDirectory_20
  rw [if_pos (rfl : (0 : Int32) = 0)]
  split <;> rfl
abbrev bT : Int64 × Int32 × Int32 × RS → Option ((Int64 × RS) ⊕ (Int64 × Int32 × Int32 × RS)) := fun a => b_X3_tree_23 a.1 a.2.1 a.2.2.1 a.2.2.2
abbrev bH (n : Nat) (d dp : Int32) : Int64 × Int32 × Int32 × CS → Option ((Int64 × CS) ⊕ (Int64 × Int32 × Int32 × CS)) := fun a => b_X2_hashOfDirectory_20 (f_hI n) d dp a.1 a.2.1 a.2.2.1 a.2.2.2
def mc (m : Int32) : Nat := cn (fun j => bt m j = true) 12
theorem mc_le (m : Int32) : mc m ≤ 12 := cn_le _ 12
theorem mc_set {m : Int32} {j : Nat} (hj : j < 12) (h : ¬ bt m j = true) : mc m < mc (m ||| ((1 : Int32) <<< (nI j &&& 31))) := by
  refine cn_lt (fun k hk => ?_) (x := j) h ?_ 12 hj
  · rw [b_or, hk, Bool.true_or]
  · rw [bt_set m (by omega) (by omega), decide_eq_true rfl, Bool.or_true]
theorem NQ_le (P : NF) (d nm : Nat) : NQ P d nm ≤ 8 := cn_le _ 8
theorem NQ_s {P : NF} {d nm p j nn : Nat} (hp : p < 8) (hj : j < 12) (h1 : nm < nn) (h2 : nn ≤ 99) (hP : P (8 * d + p) = nI (100 * j + nn)) : NQ P d nn < NQ P d nm := by
  have e : nE (P (8 * d + p)) = nI nn := by rw [hP]; exact (nE_c hj h2).2
  refine cn_lt (fun k hk => ?_) (x := p) ?_ ?_ 8 hp
  · exact Int32.lt_trans (nI_lt h1 (by omega)) hk
  · rw [e]; exact fun q => Int32.lt_irrefl q
  · rw [e]; exact nI_lt h1 (by omega)
theorem SC_t {a b c : CS} (h1 : SC a b) (h2 : SC b c) : SC a c := ⟨h2.1.trans h1.1, h2.2.1.trans h1.2.1, h2.2.2.1.trans h1.2.2.1, h2.2.2.2.1.trans h1.2.2.2.1, h2.2.2.2.2.1.trans h1.2.2.2.2.1, h2.2.2.2.2.2.trans h1.2.2.2.2.2⟩
theorem SC_met (v : Int32) (c : CS) : SC c (sC_met v c) := ⟨rfl, rfl, rfl, rfl, rfl, rfl⟩
theorem met_met (v : Int32) (c : CS) : C_met (sC_met v c) = v := rfl
theorem RW_S {c c' : CS} {r r' : RS} (h : RW c r) (h1 : SC c c') (h2 : SR r r') : RW c' r' := by
  unfold RW at *
  rw [h1.1, h2.1, h2.2.1, h2.2.2.1, h2.2.2.2.1, h2.2.2.2.2.1]
  exact h
theorem WI_S {r r' : RS} (h : WI (R_kind r) (R_size r) (R_pl r) (R_rec r)) (h2 : SR r r') : WI (R_kind r') (R_size r') (R_pl r') (R_rec r') := by
  rw [h2.1, h2.2.1, h2.2.2.1, h2.2.2.2.2.1]
  exact h
/-- the walk of the directory at a depth, both sides -/
def TT (n N d dp nm kk : Nat) (h : Int64) (c : CS) (r : RS) : Prop := ∃ (h' : Int64) (c' : CS) (r' : RS) (s : Nat) (E : Int32), f_X2_entryBehindName (nI d) (nI nm) c = some E ∧ (∀ fc, N < fc → itl (bH n (nI d) (nI dp)) fc (h, E, nI kk, c) = some (h', c')) ∧ (∀ f, itl bT (s + f) (h, C_met c, nI (dp + 1), r) = itl bT f (31 * h' + 9, C_met c', nI dp, r')) ∧ SC c c' ∧ SR r r' ∧ (∀ x, x < dp → R_op r' x = R_op r x ∧ R_ln r' x = R_ln r x) ∧ mc (C_met c) ≤ mc (C_met c') ∧ s + 9 * mc (C_met c) ≤ N + 1 + 9 * mc (C_met c')
theorem TT_end {n N d dp nm kk : Nat} {h : Int64} {c : CS} {r : RS} (hdp : dp ≤ 11) (ho : R_op r dp = nI d) (hl : R_ln r dp = nI nm) (e1 : f_X2_entryBehindName (nI d) (nI nm) c = some 0) (e2 : f_X3_nextEntry (nI d) (nI nm) r = some (-1)) : TT n N d dp nm kk h c r := by
  refine ⟨h, c, r, 1, 0, e1, fun fc hfc => ?_, fun f => ?_, SC_r c, SR_r r, fun x _ => ⟨rfl, rfl⟩, Nat.le_refl _, by omega⟩
  · obtain ⟨fc, rfl⟩ : ∃ z, fc = z + 1 := ⟨fc - 1, by omega⟩
    exact itl_stop fc (c_end _ _ _ _ _ _)
  · rw [Nat.add_comm 1 f]
    exact itl_step f (t_pop hdp ho hl e2 h (C_met c))
