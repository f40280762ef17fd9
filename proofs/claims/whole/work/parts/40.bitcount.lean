/-! the number of bits -/
theorem and_256 {m M a b : Nat} (ha : a < 256) (hb : b < 256) : (256 * m + a) &&& (256 * M + b) = 256 * (m &&& M) + (a &&& b) := by
  have hab : a &&& b < 2 ^ 8 := Nat.and_lt_two_pow _ hb
  apply Nat.eq_of_testBit_eq
  intro j
  rw [Nat.testBit_and, show 256 = 2 ^ 8 from rfl, Nat.testBit_two_pow_mul_add m ha, Nat.testBit_two_pow_mul_add M hb, Nat.testBit_two_pow_mul_add (m &&& M) hab]
  by_cases h : j < 8
  · rw [if_pos h, if_pos h, if_pos h, Nat.testBit_and]
  · rw [if_neg h, if_neg h, if_neg h, Nat.testBit_and]
def q1 (M n : Nat) : Nat := n - ((n / 2) &&& M)
def q2 (M n : Nat) : Nat := (n &&& M) + ((n / 4) &&& M)
def q3 (M n : Nat) : Nat := (n + n / 16) &&& M
theorem b1_tab : ∀ a, a < 256 → ∀ z, z < 2 → ((128 * z + a / 2) &&& 85 = (a / 2) &&& 85) := by decide +kernel
theorem b1_le : ∀ a, a < 256 → (a / 2) &&& 85 ≤ a ∧ q1 85 a < 256 := by decide +kernel
theorem b2_tab : ∀ a, a < 256 → ∀ z, z < 4 → ((64 * z + a / 4) &&& 51 = (a / 4) &&& 51) := by decide +kernel
theorem b2_le : ∀ a, a < 256 → q2 51 a < 256 ∧ (q2 51 (q1 85 a)) % 16 ≤ 4 ∧ (q2 51 (q1 85 a)) / 16 ≤ 4 := by decide +kernel
theorem q1_s {M m a : Nat} (ha : a < 256) : q1 (256 * M + 85) (256 * m + a) = 256 * q1 M m + q1 85 a := by
  unfold q1
  have e : (256 * m + a) / 2 = 256 * (m / 2) + (128 * (m % 2) + a / 2) := by omega
  rw [e, and_256 (by omega) (by omega), b1_tab a ha (m % 2) (by omega)]
  have h1 := (b1_le a ha).1
  have h2 : (m / 2) &&& M ≤ m := Nat.le_trans Nat.and_le_left (Nat.div_le_self _ _)
  omega
theorem q2_s {M m a : Nat} (ha : a < 256) : q2 (256 * M + 51) (256 * m + a) = 256 * q2 M m + q2 51 a := by
  unfold q2
  have e : (256 * m + a) / 4 = 256 * (m / 4) + (64 * (m % 4) + a / 4) := by omega
  rw [e, and_256 ha (by omega), and_256 (a := 64 * (m % 4) + a / 4) (by omega) (by omega), b2_tab a ha (m % 4) (by omega)]
  omega
theorem q3_s {M m a : Nat} (ha : a < 256) (h1 : a % 16 ≤ 4) (h2 : a / 16 ≤ 4) (h3 : m % 16 ≤ 4) : q3 (256 * M + 15) (256 * m + a) = 256 * q3 M m + (a % 16 + a / 16) := by
  unfold q3
  have e : 256 * m + a + (256 * m + a) / 16 = 256 * (m + m / 16) + (16 * (m % 16) + 16 * (a / 16) + (a % 16 + a / 16)) := by omega
  have hx : 16 * (m % 16) + 16 * (a / 16) + (a % 16 + a / 16) < 256 := by omega
  rw [e, and_256 hx (by omega), show (15 : Nat) = 2 ^ 4 - 1 from rfl, Nat.and_two_pow_sub_one_eq_mod]
  have : (16 * (m % 16) + 16 * (a / 16) + (a % 16 + a / 16)) % 2 ^ 4 = a % 16 + a / 16 := by omega
  rw [this]
theorem pc_tab : ∀ a, a < 256 → (q2 51 (q1 85 a)) % 16 + (q2 51 (q1 85 a)) / 16 = cn (fun b => a.testBit b = true) 8 := by decide +kernel
theorem cn_app {Q : Nat → Prop} [DecidablePred Q] (j : Nat) : ∀ k, cn Q (j + k) = cn Q j + cn (fun x => Q (j + x)) k
  | 0 => rfl
  | k + 1 => by
    show cn Q (j + k) + (if Q (j + k) then 1 else 0) = cn Q j + (cn (fun x => Q (j + x)) k + if Q (j + k) then 1 else 0)
    rw [cn_app j k, Nat.add_assoc]
theorem cn_byte {m a k : Nat} (ha : a < 256) : cn (fun b => (256 * m + a).testBit b = true) (8 + k) = cn (fun b => a.testBit b = true) 8 + cn (fun b => m.testBit b = true) k := by
  rw [cn_app]
  congr 1
  · refine cn_congr 8 (fun b hb => ?_)
    rw [show 256 = 2 ^ 8 from rfl, Nat.testBit_two_pow_mul_add m ha, if_pos hb]
  · refine cn_congr k (fun b hb => ?_)
    rw [show 256 = 2 ^ 8 from rfl, Nat.testBit_two_pow_mul_add m ha, if_neg (by omega), show 8 + b - 8 = b by omega]
theorem bc1 {n : Nat} (h : n < 2 ^ 64) : bc_9 (lN n) = lN (q1 6148914691236517205 n) := by
  unfold bc_9 q1
  have e : ((lN n).toUInt64 >>> ((1 : Int32).toInt64.toUInt64 &&& Int64.toUInt64 63)).toInt64 = lN (n / 2 ^ 1) := wb_shr (k := 1) h (by omega)
  have hd : n / 2 ^ 1 ≤ n := Nat.div_le_self _ _
  rw [e, show (6148914691236517205 : Int64) = lN 6148914691236517205 from rfl, wb_and (by omega) (by omega), lN_sub (Nat.le_trans Nat.and_le_left hd)]
theorem bc2 {n : Nat} (h : n < 2 ^ 64) : bc_23 (lN n) = lN (q2 3689348814741910323 n) := by
  unfold bc_23 q2
  have e : ((lN n).toUInt64 >>> ((2 : Int32).toInt64.toUInt64 &&& Int64.toUInt64 63)).toInt64 = lN (n / 2 ^ 2) := wb_shr (k := 2) h (by omega)
  have hd : n / 2 ^ 2 ≤ n := Nat.div_le_self _ _
  rw [e, show (3689348814741910323 : Int64) = lN 3689348814741910323 from rfl, wb_and (by omega) (by omega), wb_and (by omega) (by omega), lN_add]
theorem bc3 {n : Nat} (h : n < 2 ^ 60) : bc_33 (lN n) = lN (q3 1085102592571150095 n) := by
  unfold bc_33 q3
  have e : ((lN n).toUInt64 >>> ((4 : Int32).toInt64.toUInt64 &&& Int64.toUInt64 63)).toInt64 = lN (n / 2 ^ 4) := wb_shr (k := 4) (by omega) (by omega)
  have hd : n / 2 ^ 4 ≤ n := Nat.div_le_self _ _
  rw [e, lN_add, show (1085102592571150095 : Int64) = lN 1085102592571150095 from rfl, wb_and (by omega) (by omega)]
theorem bc4 {n : Nat} (h : n < 2 ^ 60) : bc_40 (lN n) = lN (n + n / 256) ∧ bc_47 (lN n) = lN (n + n / 65536) ∧ bc_54 (lN n) = lN (n + n / 4294967296) := by
  have e1 : ((lN n).toUInt64 >>> ((8 : Int32).toInt64.toUInt64 &&& Int64.toUInt64 63)).toInt64 = lN (n / 2 ^ 8) := wb_shr (k := 8) (by omega) (by omega)
  have e2 : ((lN n).toUInt64 >>> ((16 : Int32).toInt64.toUInt64 &&& Int64.toUInt64 63)).toInt64 = lN (n / 2 ^ 16) := wb_shr (k := 16) (by omega) (by omega)
  have e3 : ((lN n).toUInt64 >>> ((32 : Int32).toInt64.toUInt64 &&& Int64.toUInt64 63)).toInt64 = lN (n / 2 ^ 32) := wb_shr (k := 32) (by omega) (by omega)
  refine ⟨?_, ?_, ?_⟩
  · unfold bc_40; rw [e1, lN_add]
  · unfold bc_47; rw [e2, lN_add]
  · unfold bc_54; rw [e3, lN_add]
theorem bc_ok {A : Nat} (hA : A < 2 ^ 40) : f_J13_bitCount_95d88 (lN A) = nI (cn (fun b => A.testBit b = true) 40) := by
  obtain ⟨A1, a0, h0, rfl⟩ : ∃ m a, a < 256 ∧ A = 256 * m + a := ⟨A / 256, A % 256, by omega, by omega⟩
  obtain ⟨A2, a1, h1, rfl⟩ : ∃ m a, a < 256 ∧ A1 = 256 * m + a := ⟨A1 / 256, A1 % 256, by omega, by omega⟩
  obtain ⟨A3, a2, h2, rfl⟩ : ∃ m a, a < 256 ∧ A2 = 256 * m + a := ⟨A2 / 256, A2 % 256, by omega, by omega⟩
  obtain ⟨A4, a3, h3, rfl⟩ : ∃ m a, a < 256 ∧ A3 = 256 * m + a := ⟨A3 / 256, A3 % 256, by omega, by omega⟩
  have h4 : A4 < 256 := by omega
  obtain ⟨a4, rfl⟩ : ∃ a, A4 = 256 * 0 + a := ⟨A4, by omega⟩
  have h4 : a4 < 256 := by omega
  have c1 : q1 6148914691236517205 (256 * (256 * (256 * (256 * (256 * 0 + a4) + a3) + a2) + a1) + a0) = 256 * (256 * (256 * (256 * (256 * 0 + q1 85 a4) + q1 85 a3) + q1 85 a2) + q1 85 a1) + q1 85 a0 := by
    rw [show 6148914691236517205 = 256 * (256 * (256 * (256 * (256 * 5592405 + 85) + 85) + 85) + 85) + 85 from rfl, q1_s h0, q1_s h1, q1_s h2, q1_s h3, q1_s h4]
    rfl
  have l0 := (b1_le a0 h0).2
  have l1 := (b1_le a1 h1).2
  have l2 := (b1_le a2 h2).2
  have l3 := (b1_le a3 h3).2
  have l4 := (b1_le a4 h4).2
  have c2 : q2 3689348814741910323 (256 * (256 * (256 * (256 * (256 * 0 + q1 85 a4) + q1 85 a3) + q1 85 a2) + q1 85 a1) + q1 85 a0) = 256 * (256 * (256 * (256 * (256 * 0 + q2 51 (q1 85 a4)) + q2 51 (q1 85 a3)) + q2 51 (q1 85 a2)) + q2 51 (q1 85 a1)) + q2 51 (q1 85 a0) := by
    rw [show 3689348814741910323 = 256 * (256 * (256 * (256 * (256 * 3355443 + 51) + 51) + 51) + 51) + 51 from rfl, q2_s l0, q2_s l1, q2_s l2, q2_s l3, q2_s l4]
    rfl
  have m0 := (b2_le _ l0).1
  have m1 := (b2_le _ l1).1
  have m2 := (b2_le _ l2).1
  have m3 := (b2_le _ l3).1
  have m4 := (b2_le _ l4).1
  obtain ⟨_, n0, o0⟩ := b2_le a0 h0
  obtain ⟨_, n1, o1⟩ := b2_le a1 h1
  obtain ⟨_, n2, o2⟩ := b2_le a2 h2
  obtain ⟨_, n3, o3⟩ := b2_le a3 h3
  obtain ⟨_, n4, o4⟩ := b2_le a4 h4
  have t0 := pc_tab a0 h0
  have t1 := pc_tab a1 h1
  have t2 := pc_tab a2 h2
  have t3 := pc_tab a3 h3
  have t4 := pc_tab a4 h4
  have hcn : cn (fun b => (256 * (256 * (256 * (256 * (256 * 0 + a4) + a3) + a2) + a1) + a0).testBit b = true) 40 = cn (fun b => a0.testBit b = true) 8 + (cn (fun b => a1.testBit b = true) 8 + (cn (fun b => a2.testBit b = true) 8 + (cn (fun b => a3.testBit b = true) 8 + (cn (fun b => a4.testBit b = true) 8 + 0)))) := by
    have k1 := cn_byte (m := 256 * (256 * (256 * (256 * 0 + a4) + a3) + a2) + a1) (k := 32) h0
    have k2 := cn_byte (m := 256 * (256 * (256 * 0 + a4) + a3) + a2) (k := 24) h1
    have k3 := cn_byte (m := 256 * (256 * 0 + a4) + a3) (k := 16) h2
    have k4 := cn_byte (m := 256 * 0 + a4) (k := 8) h3
    have k5 := cn_byte (m := 0) (k := 0) h4
    rw [show (40 : Nat) = 8 + 32 from rfl, k1, show (32 : Nat) = 8 + 24 from rfl, k2, show (24 : Nat) = 8 + 16 from rfl, k3, show (16 : Nat) = 8 + 8 from rfl, k4]
    have k5' : cn (fun b => (256 * 0 + a4).testBit b = true) 8 = cn (fun b => a4.testBit b = true) 8 + 0 := k5
    rw [k5']
  rw [hcn, ← t0, ← t1, ← t2, ← t3, ← t4]
  unfold f_J13_bitCount_95d88
  rw [bc1 (by omega), c1, bc2 (by omega), c2]
  generalize q2 51 (q1 85 a0) = b0 at *
  generalize q2 51 (q1 85 a1) = b1 at *
  generalize q2 51 (q1 85 a2) = b2 at *
  generalize q2 51 (q1 85 a3) = b3 at *
  generalize q2 51 (q1 85 a4) = b4 at *
  have c3 : q3 1085102592571150095 (256 * (256 * (256 * (256 * (256 * 0 + b4) + b3) + b2) + b1) + b0) = 256 * (256 * (256 * (256 * (256 * 0 + (b4 % 16 + b4 / 16)) + (b3 % 16 + b3 / 16)) + (b2 % 16 + b2 / 16)) + (b1 % 16 + b1 / 16)) + (b0 % 16 + b0 / 16) := by
    rw [show 1085102592571150095 = 256 * (256 * (256 * (256 * (256 * 986895 + 15) + 15) + 15) + 15) + 15 from rfl, q3_s m0 n0 o0 (by omega), q3_s m1 n1 o1 (by omega), q3_s m2 n2 o2 (by omega), q3_s m3 n3 o3 (by omega), q3_s m4 n4 o4 (by omega)]
    rfl
  rw [bc3 (by omega), c3]
  have hp0 : b0 % 16 + b0 / 16 ≤ 8 := by omega
  have hp1 : b1 % 16 + b1 / 16 ≤ 8 := by omega
  have hp2 : b2 % 16 + b2 / 16 ≤ 8 := by omega
  have hp3 : b3 % 16 + b3 / 16 ≤ 8 := by omega
  have hp4 : b4 % 16 + b4 / 16 ≤ 8 := by omega
  clear c3 c1 c2 hcn t0 t1 t2 t3 t4
  generalize b0 % 16 + b0 / 16 = p0 at *
  generalize b1 % 16 + b1 / 16 = p1 at *
  generalize b2 % 16 + b2 / 16 = p2 at *
  generalize b3 % 16 + b3 / 16 = p3 at *
  generalize b4 % 16 + b4 / 16 = p4 at *
  obtain ⟨X, hX⟩ : ∃ X, X = 256 * (256 * (256 * (256 * (256 * 0 + p4) + p3) + p2) + p1) + p0 := ⟨_, rfl⟩
  rw [← hX]
  obtain ⟨Y, hY⟩ : ∃ Y, Y = X + X / 256 := ⟨_, rfl⟩
  have hY2 : Y = (p0 + p1) + 256 * (p1 + p2) + 65536 * (p2 + p3) + 16777216 * (p3 + p4) + 4294967296 * p4 := by omega
  obtain ⟨Z, hZ⟩ : ∃ Z, Z = Y + Y / 65536 := ⟨_, rfl⟩
  have hZ2 : Z = (p0 + p1 + p2 + p3) + 256 * (p1 + p2 + p3 + p4) + 65536 * (p2 + p3 + p4) + 16777216 * (p3 + p4) + 4294967296 * p4 := by omega
  obtain ⟨V, hV⟩ : ∃ V, V = Z + Z / 4294967296 := ⟨_, rfl⟩
  have hV2 : V = (p0 + p1 + p2 + p3 + p4) + 256 * (p1 + p2 + p3 + p4) + 65536 * (p2 + p3 + p4) + 16777216 * (p3 + p4) + 4294967296 * p4 := by omega
  rw [(bc4 (n := X) (by omega)).1, ← hY, (bc4 (n := Y) (by omega)).2.1, ← hZ, (bc4 (n := Z) (by omega)).2.2, ← hV, lN_i, pk_and (nI V) (m := 127) 7 (by decide)]
  have e : (nI V).toBitVec.toNat = V % 2 ^ 32 := by
    show (BitVec.ofNat 32 V).toNat = _
    rw [BitVec.toNat_ofNat]
  rw [e]
  congr 1
  omega
