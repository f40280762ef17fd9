set_option maxHeartbeats 4000000 in
set_option maxRecDepth 100000 in
theorem law_loop {p : Program} {l : Launch} {e : Env} {s : State} {m : MethodId} {below : List Frame} {meth : Method} {c : Code} {b L : Nat} {xs : Nat → Int32} {D : va_G} {cI cJ : ClassId} {h0 q1 q2 q3 g0 qk qs qp qw qr qo qn : Nat} (hL : L ≤ 4096) (C0 : lw_At p s m meth c b L xs) (hK : va_K D vwCl (gT cI cJ) s) : ∀ (n k : Nat) (cs : CS) (rs : RS) (w : Nat) (H : Heap) (locs : List Loc) (ls : Array Slot), L < 8 * k + 8 * n → k ≤ 512 → RB cs rs → IV rs → w ≤ 200 * k → R_wr rs = nI w → gG D (fun q : Nat => s.heap.size ≤ q) s.heap (wC h0 q1 q2 q3 cJ cs ++ wR g0 qk qs qp qw qr qo qn cI cJ rs) H locs → lv_has ls 4 [(0, .ref b), (1, .ref h0), (2, .ref g0), (3, .int (nI (8 * k)))] → W p l e room_1 s m #[Value.ref b] below meth c H locs 12 540 (lw_Z below #[Value.ref b] s) (F0 m 18 ls []) := by
  obtain ⟨hx, hb, hr, hml, hown, hts0, hX, hbl, hlocks, hgv⟩ := id C0
  have hbA : ¬ (fun q : Nat => s.heap.size ≤ q) b := Nat.not_le.mpr hbl
  have stop : ∀ (H : Heap) (locs : List Loc) (ls : Array Slot) (w' : va_W), gG D (fun q : Nat => s.heap.size ≤ q) s.heap w' H locs → W p l e room_1 s m #[Value.ref b] below meth c H locs 12 540 (lw_Z below #[Value.ref b] s) (F0 m 831 ls []) := by
    intro H locs ls w' hG
    refine lv_iconst (v := 1) hx hb dL_law_831 (by decide) ?_
    refine va_forget (fun q hq => hG.2.2.2.2 q hq) ?_
    refine W.widen (k := 600000) (n := 7302250) (by decide) (by decide) ?_
    exact lw_ret hx hb hr hlocks dL_law_832
  intro n
  induction n with
  | zero =>
    intro k cs rs w H locs ls hn hk5 hB hI hw hr0 hG hl
    refine lv_iload_n hx hb dL_law_18 rfl (lv_at hl 3 rfl) ?_
    refine lv_aload_n hx hb dL_law_19 rfl (lv_at hl 0 rfl) ?_
    refine va_slen hx hb hX hbl hbA hG.2.2 dL_law_20 ?_
    refine lv_bipush (v := 8) hx hb dL_law_21 (by decide) ?_
    refine lv_isub hx hb dL_law_23 ?_
    refine lv_icmp_gt (tgt := 831) hx hb dL_law_24 (by decide) (fun cq => ?_) (fun cq => ?_)
    · exact stop H locs ls _ hG
    · exfalso
      apply cq
      rw [Int32.lt_iff_toInt_lt]
      have e1 : (Int32.ofNat L - 8).toInt = (L : Int) - 8 := pk_sub_toInt (a := L) (b := 8) (by omega) (by omega)
      rw [e1, nI_toInt (by omega)]
      omega
  | succ n ih =>
    intro k cs rs w H locs ls hn hk5 hB hI hw hr0 hG hl
    refine lv_iload_n hx hb dL_law_18 rfl (lv_at hl 3 rfl) ?_
    refine lv_aload_n hx hb dL_law_19 rfl (lv_at hl 0 rfl) ?_
    refine va_slen hx hb hX hbl hbA hG.2.2 dL_law_20 ?_
    refine lv_bipush (v := 8) hx hb dL_law_21 (by decide) ?_
    refine lv_isub hx hb dL_law_23 ?_
    have e1 : (Int32.ofNat L - 8).toInt = (L : Int) - 8 := pk_sub_toInt (a := L) (b := 8) (by omega) (by omega)
    have e2 : (nI (8 * k)).toInt = ((8 * k : Nat) : Int) := nI_toInt (by omega)
    refine lv_icmp_gt (tgt := 831) hx hb dL_law_24 (by decide) (fun cq => ?_) (fun cq => ?_)
    · exact stop H locs ls _ hG
    · have hk8 : 8 * k + 8 ≤ L := by
        rw [Int32.lt_iff_toInt_lt, e1, e2] at cq
        omega
      have vin0 : vp_in (nI (8 * k)) L := vp_in_nI (by omega) (by omega)
      refine lv_aload_n hx hb dL_law_27 rfl (lv_at hl 0 rfl) ?_
      refine lv_iload_n hx hb dL_law_28 rfl (lv_at hl 3 rfl) ?_
      refine va_sld hx hb hX hbl hbA hG.2.2 vin0 dL_law_29 ?_
      refine lv_bipush (v := 31) hx hb dL_law_30 (by decide) ?_
      refine lv_iand hx hb dL_law_32 ?_
      have next : ∀ (cs' : CS) (rs' : RS) (H : Heap) (locs : List Loc), RB cs' rs' → IV rs' → (∃ m, m ≤ 200 ∧ R_wr rs' = R_wr rs + nI m) → gG D (fun q : Nat => s.heap.size ≤ q) s.heap (wC h0 q1 q2 q3 cJ cs' ++ wR g0 qk qs qp qw qr qo qn cI cJ rs') H locs → W p l e room_1 s m #[Value.ref b] below meth c H locs 12 540 (lw_Z below #[Value.ref b] s) (F0 m 825 ls []) := by
        rintro cs' rs' H locs hB' hI' ⟨mm, hm1, hm2⟩ hG
        have e3 : nI (8 * k) + 8 = nI (8 * (k + 1)) := by
          rw [show (8 : Int32) = nI 8 from rfl, nI_add]; rfl
        refine lv_iinc (v := nI (8 * (k + 1))) (lv' := [(3, .int (nI (8 * (k + 1)))), (0, .ref b), (1, .ref h0), (2, .ref g0)]) hx hb dL_law_825 hl (k := 3) rfl e3 (by decide) rfl (fun ls hl => ?_)
        refine lv_goto (tgt := 18) hx hb dL_law_828 (by decide) ?_
        exact ih (k + 1) cs' rs' (w + mm) H locs ls (by omega) (by omega) hB' hI' (by omega) (by rw [hm2, hr0, nI_add]) hG (lv_sub hl [1, 2, 3, 0] rfl)
      obtain ⟨j, hj, hje⟩ := pk_andE (xs (nI (8 * k)).toNatClampNeg) (m := 31) 5 (by decide)
      rw [hje]
      have hjt : (nI j).toInt = (j : Int) := nI_toInt (by omega)
      by_cases j0 : j = 0
      · subst j0
        refine lv_tableIn (off := 95) (tgt := 128) hx hb dL_law_33 (by decide) (by decide) rfl (by decide) ?_
        exact lc_cut hL C0 hK rfl hk8 hB hI hG hl next
      by_cases j1 : j = 1
      · subst j1
        refine lv_tableIn (off := 118) (tgt := 151) hx hb dL_law_33 (by decide) (by decide) rfl (by decide) ?_
        exact lc_make hL C0 hK rfl hk8 hB hI hG hl next
      by_cases j2 : j = 2
      · subst j2
        refine lv_tableIn (off := 161) (tgt := 194) hx hb dL_law_33 (by decide) (by decide) rfl (by decide) ?_
        exact lc_append hL C0 hK rfl hk8 hB hI hG hl next
      by_cases j3 : j = 3
      · subst j3
        refine lv_tableIn (off := 308) (tgt := 341) hx hb dL_law_33 (by decide) (by decide) rfl (by decide) ?_
        exact lc_put hL C0 hK rfl hk8 hB hI hG hl next
      by_cases j4 : j = 4
      · subst j4
        refine lv_tableIn (off := 391) (tgt := 424) hx hb dL_law_33 (by decide) (by decide) rfl (by decide) ?_
        exact lc_remove hL C0 hK rfl hk8 hB hI hG hl next
      by_cases j5 : j = 5
      · subst j5
        refine lv_tableIn (off := 424) (tgt := 457) hx hb dL_law_33 (by decide) (by decide) rfl (by decide) ?_
        exact lc_rename hL C0 hK rfl hk8 hB hI hG hl next
      by_cases j6 : j = 6
      · subst j6
        refine lv_tableIn (off := 477) (tgt := 510) hx hb dL_law_33 (by decide) (by decide) rfl (by decide) ?_
        exact lc_step hL C0 hK rfl hk8 hB hI hG hl next
      by_cases j7 : j = 7
      · subst j7
        refine lv_tableIn (off := 490) (tgt := 523) hx hb dL_law_33 (by decide) (by decide) rfl (by decide) ?_
        exact lc_restart hL C0 hK rfl hk8 hB hI (w := w) (by omega) hr0 hG hl next
      by_cases j8 : j = 8
      · subst j8
        refine lv_tableIn (off := 503) (tgt := 536) hx hb dL_law_33 (by decide) (by decide) rfl (by decide) ?_
        exact lc_isDown hL C0 hK rfl hk8 hB hI hG hl next
      by_cases j9 : j = 9
      · subst j9
        refine lv_tableIn (off := 516) (tgt := 549) hx hb dL_law_33 (by decide) (by decide) rfl (by decide) ?_
        exact lc_find hL C0 hK rfl hk8 hB hI hG hl next
      by_cases j10 : j = 10
      · subst j10
        refine lv_tableIn (off := 549) (tgt := 582) hx hb dL_law_33 (by decide) (by decide) rfl (by decide) ?_
        exact lc_inode hL C0 hK rfl hk8 hB hI hG hl next
      by_cases j11 : j = 11
      · subst j11
        refine lv_tableIn (off := 582) (tgt := 615) hx hb dL_law_33 (by decide) (by decide) rfl (by decide) ?_
        exact lc_data hL C0 hK rfl hk8 hB hI hG hl next
      by_cases j12 : j = 12
      · subst j12
        refine lv_tableIn (off := 615) (tgt := 648) hx hb dL_law_33 (by decide) (by decide) rfl (by decide) ?_
        exact lc_read hL C0 hK rfl hk8 hB hI hG hl next
      by_cases j13 : j = 13
      · subst j13
        refine lv_tableIn (off := 658) (tgt := 691) hx hb dL_law_33 (by decide) (by decide) rfl (by decide) ?_
        exact lc_asked hL C0 hK rfl hk8 hB hI hG hl next
      by_cases j14 : j = 14
      · subst j14
        refine lv_tableIn (off := 672) (tgt := 705) hx hb dL_law_33 (by decide) (by decide) rfl (by decide) ?_
        exact lc_record hL C0 hK rfl hk8 hB hI hG hl next
      by_cases j15 : j = 15
      · subst j15
        refine lv_tableIn (off := 695) (tgt := 728) hx hb dL_law_33 (by decide) (by decide) rfl (by decide) ?_
        exact lc_plan hL C0 hK rfl hk8 hB hI hG hl next
      by_cases j16 : j = 16
      · subst j16
        refine lv_tableIn (off := 718) (tgt := 751) hx hb dL_law_33 (by decide) (by decide) rfl (by decide) ?_
        exact lc_runs hL C0 hK rfl hk8 hB hI hG hl next
      by_cases j17 : j = 17
      · subst j17
        refine lv_tableIn (off := 741) (tgt := 774) hx hb dL_law_33 (by decide) (by decide) rfl (by decide) ?_
        exact lc_count hL C0 hK rfl hk8 hB hI hG hl next
      by_cases j18 : j = 18
      · subst j18
        refine lv_tableIn (off := 764) (tgt := 797) hx hb dL_law_33 (by decide) (by decide) rfl (by decide) ?_
        exact lc_tree hL C0 hK rfl hk8 hB hI hG hl next
      by_cases j19 : j = 19
      · subst j19
        refine lv_tableIn (off := 778) (tgt := 811) hx hb dL_law_33 (by decide) (by decide) rfl (by decide) ?_
        exact lc_digest hL C0 hK rfl hk8 hB hI hG hl next
      refine lv_tableOut (tgt := 825) hx hb dL_law_33 (by rw [hjt]; omega) (by decide) ?_
      exact next cs rs H locs hB hI ⟨0, by omega, (Int32.add_zero _).symm⟩ hG
theorem RB_0 : RB c0S r0S ∧ IV r0S := by
  refine ⟨⟨⟨fun i hi => ?_, fun i hi => ?_, fun i p hi hp => ?_, fun j hj => ?_, fun k hk => ?_⟩, rfl, rfl, rfl, rfl, rfl⟩, ?_⟩
  · show vp_updL (fun _ => (0 : Int64)) 0 1 (10 * i) = (upd (fun _ => (0 : Int32)) 0 1 i).toInt64
    by_cases e : i = 0
    · subst e; rfl
    · rw [pk_uLn (by omega), pk_un e]; rfl
  · show vp_updL (fun _ => (0 : Int64)) 0 1 (10 * i + 1) = (0 : Int32).toInt64
    rw [pk_uLn (by omega)]; rfl
  · show vp_updL (fun _ => (0 : Int64)) 0 1 (10 * i + 2 + p) = (0 : Int32).toInt64
    rw [pk_uLn (by omega)]; rfl
  · show vp_updL (fun _ => (0 : Int64)) 0 1 (120 + j) = (0 : Int64)
    rw [pk_uLn (by omega)]
  · show vp_updL (fun _ => (0 : Int64)) 0 1 (240 + k) = (0 : Int32).toInt64
    rw [pk_uLn (by omega)]; rfl
  have hno : ∀ i p, ¬ US (R_kind r0S) (R_size r0S) i p := by
    rintro i p ⟨_, _, _, h⟩
    exact nI_pos (n := p) (by omega) h
  have hnE : ∀ d p j, ¬ ET (R_kind r0S) (R_pl r0S) d p j := by
    rintro d p j ⟨_, _, hj, _, n, h1, h2, h⟩
    exact nI_ne0 (n := 100 * j + n) (by omega) (by omega) h.symm
  refine ⟨⟨fun i hi => ?_, rfl, fun i hi => ⟨0, by omega, rfl⟩, fun i p hi hp hk => Or.inl rfl, fun i p h => absurd h (hno i p), fun i p j q h => absurd h (hno i p), Or.inl rfl⟩, Or.inl rfl, Or.inl rfl, fun _ => ⟨rfl, fun d p j h => absurd h (hnE d p j), fun d p e q j h => absurd h (hnE d p j)⟩⟩
  show upd (fun _ => (0 : Int32)) 0 1 i = 0 ∨ _
  by_cases e : i = 0
  · right; left
    show upd (fun _ => (0 : Int32)) 0 1 i = 1
    rw [e, pk_us]
  · left; rw [pk_un e]
set_option maxHeartbeats 4000000 in
set_option maxRecDepth 100000 in
/-- THE LAW, from its entry -/
theorem whole_start {p : Program} {e : Env} {s : State} {m : MethodId} {below : List Frame} {meth : Method} {c : Code} (l : Launch) {b L : Nat} {xs : Nat → Int32} (hL : L ≤ 4096) (C0 : lw_At p s m meth c b L xs) : W p l e room_1 s m #[Value.ref b] below meth c s.heap [] 0 0 (lw_Z below #[Value.ref b] s) (entryFrame m ([Value.ref b] : List Value).toArray 4) := by
  obtain ⟨hx, hb, hr, hml, hown, hts0, hX, hbl, hlocks, hgv⟩ := id C0
  have hts : ∀ w ∈ wsL_law, w.before #[Value.ref b] s = true := fun w h => hts0 w (wsL_law_in w h)
  have hA : ∀ q : Nat, s.heap.size ≤ q → (fun q : Nat => s.heap.size ≤ q) q := fun _ h => h
  have B : CallFix p m c cL_law 4 s #[Value.ref b] wsL_law RL := ⟨hx, hb, hml, hown, hts⟩
  obtain ⟨k0, iS0, hKn0⟩ := u_known (C := RX0) (T := TX0) (N := 4) (n := 4) hts0 inw_X0 (hts (.instantiable RX0 4) (by decide +kernel))
  obtain ⟨k1, iS1, hKn1⟩ := u_known (C := RX1) (T := TX1) (N := 3) (n := 3) hts0 inw_X1 (hts (.instantiable RX1 3) (by decide +kernel))
  obtain ⟨k2, iS2, hKn2⟩ := u_known (C := RX2) (T := TX2) (N := 5) (n := 5) hts0 inw_X2 (hts (.instantiable RX2 5) (by decide +kernel))
  obtain ⟨k3, iS3, hKn3⟩ := u_known (C := RX3) (T := TX3) (N := 16) (n := 16) hts0 inw_X3 (hts (.instantiable RX3 16) (by decide +kernel))
  obtain ⟨D, hKc⟩ : ∃ D : va_G, ∀ (k : Nat) (q : vw_C), vwCl[k]? = some q → u_Kn s q.1 q.2.1 q.2.2 (D.1 k) (D.2 k) := by
    refine ⟨(fun k => if k = 0 then k0 else if k = 1 then k1 else if k = 2 then k2 else k3, fun k => if k = 0 then iS0 else if k = 1 then iS1 else if k = 2 then iS2 else iS3), ?_⟩
    intro k q hq
    match k, hq with
    | 0, hq => cases hq; exact hKn0
    | 1, hq => cases hq; exact hKn1
    | 2, hq => cases hq; exact hKn2
    | 3, hq => cases hq; exact hKn3
    | k + 4, hq => simp [vwCl] at hq
  obtain ⟨cI, kI, compI, i1, i2, i3⟩ := Cond.arrayClass_spec (hts (.arrayClass .int) (by decide +kernel))
  obtain ⟨cJ, kJ, compJ, j1, j2, j3⟩ := Cond.arrayClass_spec (hts (.arrayClass .long) (by decide +kernel))
  have hK : va_K D vwCl (gT cI cJ) s := by
    refine ⟨hKc, fun k q h => ?_⟩
    match k, h with
    | 0, h => cases h; exact ⟨fun n z => ⟨fun k h => (by cases h), kI, i2, compI, i3⟩, i1⟩
    | 1, h => cases h; exact ⟨fun n z => ⟨fun k h => (by cases h), kJ, j2, compJ, j3⟩, j1⟩
    | k + 2, h => simp at h
  have hN : va_Nw nkP s := va_Nw.of rfl (hts0 nkP (by decide +kernel))
  have hG : gG D (fun q : Nat => s.heap.size ≤ q) s.heap [] s.heap [] := ⟨fun k q h => by simp at h, ⟨fun i j p q h => by simp at h, fun k q h => by simp at h⟩, va_S.rf⟩
  have hl := lv_entry ([.ref b]) (n := 4) (Nat.le_of_ble_eq_true rfl)
  rw [lg_entry_eq]
  generalize (lg_sl ([.ref b]) ++ List.replicate (4 - (lg_sl ([.ref b])).length) Slot.unset).toArray = ls at hl ⊢
  have hl : lv_has ls 4 [(0, .ref b)] := hl
  have hinX2 : ∀ x ∈ wsX20, x ∈ wsL_law := fun _ h => List.mem_append_left _ (List.mem_append_left _ (List.mem_append_left _ (List.mem_append_left _ (List.mem_append_right _ h))))
  have hinX3 : ∀ x ∈ wsX30, x ∈ wsL_law := fun _ h => List.mem_append_left _ (List.mem_append_left _ (List.mem_append_left _ (List.mem_append_right _ h)))
  refine g_new (ci := 2) (fs := [.null, .null, .long 0, .int 0, .int 0]) hA hK hG B hinX2 tyX2_ok (by decide +kernel) (by decide +kernel) (by decide +kernel) rfl (fun j hj => by rcases (show j = 0 ∨ j = 1 ∨ j = 2 ∨ j = 3 ∨ j = 4 by omega) with rfl | rfl | rfl | rfl | rfl <;> rfl) (by decide) (by decide) dL_law_0 (fun h0 H hG => ?_)
  have hG : gG D (fun q : Nat => s.heap.size ≤ q) s.heap (wX0 h0) H [] := hG
  refine lv_dup hx hb dL_law_3 rfl ?_
  refine gl_IN (wc := wX0 h0) (wr := []) (wf := fun u : Nat × Nat × Nat => wC h0 u.1 u.2.1 u.2.2 cJ c0S) [0] [] hA hK hN hl.1 hG B (c_X2_init l D cI cJ h0 _) (cwI 0 hts gL_law_X2_init rfl rfl rfl (hts (.initialized RX2) (by decide +kernel)) (hts (.methodLink RL 9 yX2_init) (by decide +kernel)) (hts (.instanceMethod yX2_init) (by decide +kernel)) rfl (by decide +kernel) ⟨by decide, by decide⟩) rfl rfl rfl rfl (by decide) (Nat.le_of_ble_eq_true rfl) dL_law_4 ⟨by decide, by decide⟩ (fun u H locs hG => ?_)
  obtain ⟨q1, q2, q3⟩ := u
  have hG : gG D (fun q : Nat => s.heap.size ≤ q) s.heap (wC h0 q1 q2 q3 cJ c0S) H locs := hG
  refine lv_astore_n (lv' := [(1, .ref h0), (0, .ref b)]) hx hb dL_law_7 rfl hl (by decide) rfl (fun ls hl => ?_)
  refine g_new (ci := 3) (fs := [.null, .null, .null, .null, .null, .int 0, .int 0, .int 0, .int 0, .int 0, .int 0, .int 0, .int 0, .long 0, .null, .null]) hA hK hG B hinX3 tyX3_ok (by decide +kernel) (by decide +kernel) (by decide +kernel) rfl (fun j hj => by rcases (show j = 0 ∨ j = 1 ∨ j = 2 ∨ j = 3 ∨ j = 4 ∨ j = 5 ∨ j = 6 ∨ j = 7 ∨ j = 8 ∨ j = 9 ∨ j = 10 ∨ j = 11 ∨ j = 12 ∨ j = 13 ∨ j = 14 ∨ j = 15 by omega) with rfl | rfl | rfl | rfl | rfl | rfl | rfl | rfl | rfl | rfl | rfl | rfl | rfl | rfl | rfl | rfl <;> rfl) (by decide) (by decide) dL_law_8 (fun g0 H hG => ?_)
  have hG : gG D (fun q : Nat => s.heap.size ≤ q) s.heap (wC h0 q1 q2 q3 cJ c0S ++ wY0 g0) H locs := hG
  refine lv_dup hx hb dL_law_11 rfl ?_
  refine gl_I (wc := wY0 g0) (wr := wC h0 q1 q2 q3 cJ c0S) (wf := fun u : Nat × Nat × Nat × Nat × Nat × Nat × Nat => wR g0 u.1 u.2.1 u.2.2.1 u.2.2.2.1 u.2.2.2.2.1 u.2.2.2.2.2.1 u.2.2.2.2.2.2 cI cJ r0S) [4] [0, 1, 2, 3] hA hK hl.1 hG B (c_X3_init l D cI cJ g0 _) (cwI 0 hts gL_law_X3_init rfl rfl rfl (hts (.initialized RX3) (by decide +kernel)) (hts (.methodLink RL 12 yX3_init) (by decide +kernel)) (hts (.instanceMethod yX3_init) (by decide +kernel)) rfl (by decide +kernel) ⟨by decide, by decide⟩) rfl rfl rfl rfl (by decide) (Nat.le_of_ble_eq_true rfl) dL_law_12 ⟨by decide, by decide⟩ (fun u H locs hG => ?_)
  obtain ⟨qk, qs, qp, qw, qr, qo, qn⟩ := u
  have hG : gG D (fun q : Nat => s.heap.size ≤ q) s.heap (wC h0 q1 q2 q3 cJ c0S ++ wR g0 qk qs qp qw qr qo qn cI cJ r0S) H locs := hG
  refine lv_astore_n (lv' := [(2, .ref g0), (1, .ref h0), (0, .ref b)]) hx hb dL_law_15 rfl hl (by decide) rfl (fun ls hl => ?_)
  refine lv_iconst (v := 0) hx hb dL_law_16 (by decide) ?_
  refine lv_istore_n (lv' := [(3, .int 0), (2, .ref g0), (1, .ref h0), (0, .ref b)]) hx hb dL_law_17 rfl hl (by decide) rfl (fun ls hl => ?_)
  exact law_loop hL C0 hK (L + 1) 0 c0S r0S 0 H locs ls (by omega) (by omega) RB_0.1 RB_0.2 (by omega) rfl hG (lv_sub hl [3, 2, 1, 0] rfl)
