section GM
variable {l : Launch} {D : va_G} {tys : List (ClassId × FieldType)} {w : va_W} {sz : Nat}
/-- a contract out of a walk from the entry -/
theorem gMet {y : MethodName} {ws ws' : List Cond} {rm : Room} {Qc : Array Value → State → Outcome → State → Prop} {cc : ByteArray} {maxL : Nat} {ret : Option FieldType} {av : List Value}
    (hy : plainName y.cls = true) (hw : ws = Cond.code y cc maxL ret :: ws')
    (body : ∀ (p : Program) (e : Env) (s : State) (m : MethodId) (below : List Frame) (meth : Method) (c : Code) (ls : Array Slot), CallFix p m c cc maxL s av.toArray ws y.cls → meth.sig.returnType = ret → meth.locks = false → s.heap.size = sz → va_K D vwCl tys s → gG D (va_A w sz) s.heap w s.heap [] → lv_has ls maxL (lv_args 0 av) →
      W p l e rm s m av.toArray below meth c s.heap [] 0 0 (MQ below Qc av.toArray s 0 0 (va_A w sz)) (F0 m 0 ls [])) (hlen : (lg_sl av).length ≤ maxL) : Met l y ws rm (gPc D tys sz w av) Qc 0 0 (va_A w sz) := by
  refine Met.ofW (cc := cc) (maxL := maxL) (ret := ret) hy hw ?_
  intro p e s m args below meth c s₁ B hml hv
  obtain ⟨rfl, hsz, hP, hK, hD0⟩ := hv
  have hts := atoms_spec (ws := ws) B.pre
  have hown : s.vm.findClass y.cls = some m.cls := findClass_of_methodNamed B.named
  have hl := lv_entry av hlen
  rw [lg_entry_eq]
  exact body p e s m below meth c _ ⟨B.exec, B.bytes, hml, hown, hts⟩ B.returns B.notSynchronized hsz hK ⟨hP, by subst hsz; exact hD0.self, va_S.rf⟩ hl
end GM
section GC
variable {p : Program} {l : Launch} {e : Env} {R : Room} {s : State} {m : MethodId} {args : Array Value} {below : List Frame} {meth : Method} {c : Code} {H : Heap} {locs : List Loc} {cells slots : Nat} {Q : State → Prop}
variable {cc : ByteArray} {nL : Nat} {Ts : List Cond} {own : String} {D : va_G} {tys : List (ClassId × FieldType)} {A : Nat → Prop} {w w1 : va_W} {pc : Nat} {ls : Array Slot} {rest st0 As : List Value}
variable {y : MethodName} {bytes : ByteArray} {maxL n index : Nat} {ret : Option FieldType} {ws : List Cond} {rm : Room} {C : String} {b : Addr}
theorem gF (hA : ∀ q : Nat, s.heap.size ≤ q → A q) (hG : gG D A s.heap w H locs) : ∀ q, va_A w H.size q → A q := by
  intro q h
  rcases h with ⟨k, e, h⟩ | h
  · exact hG.2.1.2 k (q, e) h
  · exact hA q (Nat.le_trans hG.2.2.1 h)
theorem gBlind {sz : Nat} {av : List Value} : FrameBlind (gPc D tys sz w av) := fun a U g mk q => by
  obtain ⟨q0, q1, qP, qK, qD⟩ := q
  exact ⟨q0, q1, qP, va_K.moved (u := U) (U := U.calling g mk a) (Vm.Alike.refl U.vm) qK, qD⟩
theorem gPre (hK : va_K D vwCl tys s) (hG : gG D A s.heap w H locs) {av : List Value} : ∀ U : State, U.heap = H → s.WarmedH U.vm → gPc D tys H.size w av av.toArray U := fun U hU hW => ⟨rfl, by rw [hU], by rw [hU]; exact hG.1, va_K.moved hW.alike hK, hG.2.1.weaken (fun _ _ _ _ => trivial)⟩
theorem gc_Vi {r : Int32} (hA : ∀ q : Nat, s.heap.size ≤ q → A q) (hK : va_K D vwCl tys s) (hl : ls.size = nL) (hG : gG D A s.heap w H locs) (B : CallFix p m c cc nL s args Ts own)
    (hM : Met l y ws rm (gPc D tys H.size w (.ref b :: As)) (gQi D tys (va_A w H.size) r w1) 0 0 (va_A w H.size)) (cw : CallW R s args own C index y bytes maxL ret ws rm 0 0 n)
    (q0 : Nat) {ci : Nat} {fs : List Value} {qc : vw_C} (he : w[q0]? = some (b, .inr (ci, fs))) (hc : vwCl[ci]? = some qc) (hC : qc.1 = C) (hn : As.length = n) (hst : st0 = As.reverse ++ .ref b :: rest) (hroom : (rest.map fun v => v.category).sum ≤ 8)
    (hdg : decode cc pc = .ok (.invokevirtual index, 3)) (hf : cells ≤ R.cells ∧ slots ≤ R.slots)
    (kk : ∀ (H1 : Heap) (locs1 : List Loc), gG D A s.heap w1 H1 locs1 → W p l e R s m args below meth c H1 locs1 cells slots Q (F0 m (pc + 3) ls (.int r :: rest))) : W p l e R s m args below meth c H locs cells slots Q (F0 m pc ls st0) := by
  have hF := gF hA hG
  subst hC
  subst hst
  refine va_calli (va_runV (As := As) (rest := rest) B hM cw ⟨gBlind, va_recv hK hG.1 hc he, gPre hK hG⟩ rfl hn hl rfl (lv_room hroom) hdg ⟨hf.1, hf.2⟩) hG.2.2 (fun q _ h => hF q h) hF (fun r' u t H1 locs1 ht hvm hw hB hz1 hk1 hS1 => ?_)
  obtain ⟨hP1, hK1, hD1⟩ := hB
  rw [ht] at hP1
  have hw : r' = r := hw
  subst hw
  exact kk H1 locs1 ⟨hP1, hD1.weaken (fun k q _ h => hF q.1 h), hS1⟩
theorem gc_Vl {r : Int64} (hA : ∀ q : Nat, s.heap.size ≤ q → A q) (hK : va_K D vwCl tys s) (hl : ls.size = nL) (hG : gG D A s.heap w H locs) (B : CallFix p m c cc nL s args Ts own)
    (hM : Met l y ws rm (gPc D tys H.size w (.ref b :: As)) (gQl D tys (va_A w H.size) r w1) 0 0 (va_A w H.size)) (cw : CallW R s args own C index y bytes maxL ret ws rm 0 0 n)
    (q0 : Nat) {ci : Nat} {fs : List Value} {qc : vw_C} (he : w[q0]? = some (b, .inr (ci, fs))) (hc : vwCl[ci]? = some qc) (hC : qc.1 = C) (hn : As.length = n) (hst : st0 = As.reverse ++ .ref b :: rest) (hroom : (rest.map fun v => v.category).sum ≤ 8)
    (hdg : decode cc pc = .ok (.invokevirtual index, 3)) (hf : cells ≤ R.cells ∧ slots ≤ R.slots)
    (kk : ∀ (H1 : Heap) (locs1 : List Loc), gG D A s.heap w1 H1 locs1 → W p l e R s m args below meth c H1 locs1 cells slots Q (F0 m (pc + 3) ls (.long r :: rest))) : W p l e R s m args below meth c H locs cells slots Q (F0 m pc ls st0) := by
  have hF := gF hA hG
  subst hC
  subst hst
  refine va_calll (va_runV (As := As) (rest := rest) B hM cw ⟨gBlind, va_recv hK hG.1 hc he, gPre hK hG⟩ rfl hn hl rfl (lv_room hroom) hdg ⟨hf.1, hf.2⟩) hG.2.2 (fun q _ h => hF q h) hF (fun r' u t H1 locs1 ht hvm hw hB hz1 hk1 hS1 => ?_)
  obtain ⟨hP1, hK1, hD1⟩ := hB
  rw [ht] at hP1
  have hw : r' = r := hw
  subst hw
  exact kk H1 locs1 ⟨hP1, hD1.weaken (fun k q _ h => hF q.1 h), hS1⟩
theorem gc_Vv (hA : ∀ q : Nat, s.heap.size ≤ q → A q) (hK : va_K D vwCl tys s) (hl : ls.size = nL) (hG : gG D A s.heap w H locs) (B : CallFix p m c cc nL s args Ts own)
    (hM : Met l y ws rm (gPc D tys H.size w (.ref b :: As)) (gQv D tys (va_A w H.size) w1) 0 0 (va_A w H.size)) (cw : CallW R s args own C index y bytes maxL ret ws rm 0 0 n)
    (q0 : Nat) {ci : Nat} {fs : List Value} {qc : vw_C} (he : w[q0]? = some (b, .inr (ci, fs))) (hc : vwCl[ci]? = some qc) (hC : qc.1 = C) (hn : As.length = n) (hst : st0 = As.reverse ++ .ref b :: rest) (hroom : (rest.map fun v => v.category).sum ≤ 8)
    (hdg : decode cc pc = .ok (.invokevirtual index, 3)) (hf : cells ≤ R.cells ∧ slots ≤ R.slots)
    (kk : ∀ (H1 : Heap) (locs1 : List Loc), gG D A s.heap w1 H1 locs1 → W p l e R s m args below meth c H1 locs1 cells slots Q (F0 m (pc + 3) ls rest)) : W p l e R s m args below meth c H locs cells slots Q (F0 m pc ls st0) := by
  have hF := gF hA hG
  subst hC
  subst hst
  refine va_callv (va_runV (As := As) (rest := rest) B hM cw ⟨gBlind, va_recv hK hG.1 hc he, gPre hK hG⟩ rfl hn hl rfl (lv_room hroom) hdg ⟨hf.1, hf.2⟩) hG.2.2 (fun q _ h => hF q h) hF (fun u t H1 locs1 ht hvm hw hB hz1 hk1 hS1 => ?_)
  obtain ⟨hP1, hK1, hD1⟩ := hB
  rw [ht] at hP1
  exact kk H1 locs1 ⟨hP1, hD1.weaken (fun k q _ h => hF q.1 h), hS1⟩
theorem gc_Si {r : Int32} (hA : ∀ q : Nat, s.heap.size ≤ q → A q) (hK : va_K D vwCl tys s) (hl : ls.size = nL) (hG : gG D A s.heap w H locs) (B : CallFix p m c cc nL s args Ts own)
    (hM : Met l y ws rm (gPc D tys H.size w As) (gQi D tys (va_A w H.size) r w1) 0 0 (va_A w H.size)) (cw : CallB R s args own index y bytes maxL ret ws rm 0 0 n ∧ (Cond.static y).before args s = true)
    (hn : As.length = n) (hst : st0 = As.reverse ++ rest) (hroom : (rest.map fun v => v.category).sum ≤ 8)
    (hdg : decode cc pc = .ok (.invokestatic index, 3)) (hf : cells ≤ R.cells ∧ slots ≤ R.slots)
    (kk : ∀ (H1 : Heap) (locs1 : List Loc), gG D A s.heap w1 H1 locs1 → W p l e R s m args below meth c H1 locs1 cells slots Q (F0 m (pc + 3) ls (.int r :: rest))) : W p l e R s m args below meth c H locs cells slots Q (F0 m pc ls st0) := by
  have hF := gF hA hG
  subst hst
  refine va_calli (va_runS (As := As) (rest := rest) B hM cw ⟨gBlind, gPre hK hG⟩ rfl hn hl rfl (lv_room hroom) hdg ⟨hf.1, hf.2⟩) hG.2.2 (fun q _ h => hF q h) hF (fun r' u t H1 locs1 ht hvm hw hB hz1 hk1 hS1 => ?_)
  obtain ⟨hP1, hK1, hD1⟩ := hB
  rw [ht] at hP1
  have hw : r' = r := hw
  subst hw
  exact kk H1 locs1 ⟨hP1, hD1.weaken (fun k q _ h => hF q.1 h), hS1⟩
theorem g_iret {r x : Int32} {t : FieldType} (hr : meth.sig.returnType = some t) (hlk : meth.locks = false) (hK : va_K D vwCl tys s) (hG : gG D A s.heap w1 H locs) (B : CallFix p m c cc nL s args Ts own) (hn : narrow t (.int x) = .int x) (ex : x = r) (hdg : decode cc pc = .ok (.ireturn, 1)) :
    W p l e R s m args below meth c H locs cells slots (MQ below (gQi D tys A r w1) args s cells slots A) (F0 m pc ls [.int x]) := by
  obtain ⟨hP, hD, hS⟩ := hG
  subst ex
  exact W.zret B.1 B.2.1 hr hn (fun t ht hW => ⟨⟨x, (), rfl, rfl, by rw [ht]; exact hP, va_K.moved hW.alike hK, hD⟩, hS.F ht⟩) hS.2.2 hdg hlk
theorem g_lret {r x : Int64} (hr : meth.sig.returnType = some .long) (hlk : meth.locks = false) (hK : va_K D vwCl tys s) (hG : gG D A s.heap w1 H locs) (B : CallFix p m c cc nL s args Ts own) (ex : x = r) (hdg : decode cc pc = .ok (.lreturn, 1)) :
    W p l e R s m args below meth c H locs cells slots (MQ below (gQl D tys A r w1) args s cells slots A) (F0 m pc ls [.long x]) := by
  obtain ⟨hP, hD, hS⟩ := hG
  subst ex
  exact W.lret B.1 B.2.1 hr (fun t ht hW => ⟨⟨x, (), rfl, rfl, by rw [ht]; exact hP, va_K.moved hW.alike hK, hD⟩, hS.F ht⟩) hS.2.2 hdg hlk
theorem g_vret (hr : meth.sig.returnType = none) (hlk : meth.locks = false) (hK : va_K D vwCl tys s) (hG : gG D A s.heap w1 H locs) (B : CallFix p m c cc nL s args Ts own) (hdg : decode cc pc = .ok (.return_, 1)) :
    W p l e R s m args below meth c H locs cells slots (MQ below (gQv D tys A w1) args s cells slots A) (F0 m pc ls []) := by
  obtain ⟨hP, hD, hS⟩ := hG
  exact W.vret B.1 B.2.1 hr (fun t ht hW => ⟨⟨(), rfl, trivial, by rw [ht]; exact hP, va_K.moved hW.alike hK, hD⟩, hS.F ht⟩) hS.2.2 hdg hlk
theorem g_get {T : u_T} {N ci : Nat} {a : Nat} {fs : List Value} {v : Value} (hK : va_K D vwCl tys s) (hG : gG D A s.heap w H locs) (B : CallFix p m c cc nL s args Ts own) (hin : ∀ x ∈ u_ws C T N, x ∈ Ts) (q0 : Nat) (he : w[q0]? = some (a, .inr (ci, fs))) (hc : vwCl[ci]? = some (C, T, N)) (k : Nat) (hk : k < N) (hm : Cond.fieldLink own index (T k).1 (T k).2.1 (T k).2.2.1 ∈ Ts) (hv : fs[k]? = some v) (hdg : decode cc pc = .ok (.getfield index, 3))
    (kk : W p l e R s m args below meth c H locs cells slots Q (F0 m (pc + 3) ls (v :: rest))) : W p l e R s m args below meth c H locs cells slots Q (F0 m pc ls (.ref a :: rest)) :=
  va_get (D := D) (ci := ci) (v := v) (C := C) (T := T) (N := N) B.1 B.2.1 B.2.2.2.2 hin B.2.2.2.1 hK hG.1 q0 he hc k hk (B.2.2.2.2 _ hm) (fun _ h => h) hv hdg kk
theorem g_put {T : u_T} {N ci : Nat} {a : Nat} {fs : List Value} {v : Value} {ty0 : Nat → FieldType} {ty : FieldType} (hK : va_K D vwCl tys s) (hG : gG D A s.heap w H locs) (B : CallFix p m c cc nL s args Ts own) (hin : ∀ x ∈ u_ws C T N, x ∈ Ts) (hty : ∀ k, k < N → parseFieldDescriptor (T k).2.2.1 = some (ty0 k)) (hnm : ∀ a, a < N → ∀ b, b < N → a ≠ b → (T a).2.1 ≠ (T b).2.1)
    (q0 : Nat) (he : w[q0]? = some (a, .inr (ci, fs))) (hc : vwCl[ci]? = some (C, T, N)) (k : Nat) (hk : k < N) (hm : Cond.fieldLink own index (T k).1 (T k).2.1 (T k).2.2.1 ∈ Ts) (hfin : (T k).2.2.2 = false) (hd : ty0 k = ty) (hnr : narrow ty v = v) (hfit : fits ty v = true) (hlen : k < fs.length) (hdg : decode cc pc = .ok (.putfield index, 3))
    (kk : ∀ (H1 : Heap) (locs1 : List Loc), gG D A s.heap (w.set q0 (a, .inr (ci, fs.set k v))) H1 locs1 → W p l e R s m args below meth c H1 locs1 cells slots Q (F0 m (pc + 3) ls rest)) : W p l e R s m args below meth c H locs cells slots Q (F0 m pc ls (v :: .ref a :: rest)) :=
  va_put (D := D) (ci := ci) (v := v) (ty := ty) (C := C) (T := T) (N := N) B.1 B.2.1 B.2.2.2.2 hin ty0 hty hnm B.2.2.2.1 hK hG.1 hG.2.1 hG.2.2 q0 he hc k hk (B.2.2.2.2 _ hm) (fun _ h => h) hfin (by rw [hty k hk, hd]) hnr hfit hlen hdg (fun H1 l1 h1 h2 h3 => kk H1 l1 ⟨h1, h2, h3⟩)
end GC
section GA
variable {p : Program} {l : Launch} {e : Env} {R : Room} {s : State} {m : MethodId} {args : Array Value} {below : List Frame} {meth : Method} {c : Code} {H : Heap} {locs : List Loc} {cells slots : Nat} {Q : State → Prop}
variable {cc : ByteArray} {nL : Nat} {Ts : List Cond} {own : String} {D : va_G} {cI cJ : ClassId} {A : Nat → Prop} {w : va_W} {pc a n : Nat} {ls : Array Slot} {rest : List Value}
theorem g_iald {f : Nat → Int32} {i : Int32} (hK : va_K D vwCl (gT cI cJ) s) (hG : gG D A s.heap w H locs) (B : CallFix p m c cc nL s args Ts own) (q0 : Nat) (ha : w[q0]? = some (a, .inl (cI, n, .inl f))) (hin : vp_in i n) (hdg : decode cc pc = .ok (.iaload, 1))
    (kk : W p l e R s m args below meth c H locs cells slots Q (F0 m (pc + 1) ls (.int (f i.toNatClampNeg) :: rest))) : W p l e R s m args below meth c H locs cells slots Q (F0 m pc ls (.int i :: .ref a :: rest)) := va_iald B.1 B.2.1 hK hG.1 q0 0 ha rfl hin hdg kk
theorem g_lald {f : Nat → Int64} {i : Int32} (hK : va_K D vwCl (gT cI cJ) s) (hG : gG D A s.heap w H locs) (B : CallFix p m c cc nL s args Ts own) (q0 : Nat) (ha : w[q0]? = some (a, .inl (cJ, n, .inr (.inl f)))) (hin : vp_in i n) (hdg : decode cc pc = .ok (.laload, 1))
    (kk : W p l e R s m args below meth c H locs cells slots Q (F0 m (pc + 1) ls (.long (f i.toNatClampNeg) :: rest))) : W p l e R s m args below meth c H locs cells slots Q (F0 m pc ls (.int i :: .ref a :: rest)) := va_lald B.1 B.2.1 hK hG.1 q0 1 ha rfl hin hdg kk
theorem g_iast {f : Nat → Int32} {i x : Int32} (hK : va_K D vwCl (gT cI cJ) s) (hG : gG D A s.heap w H locs) (B : CallFix p m c cc nL s args Ts own) (q0 : Nat) (ha : w[q0]? = some (a, .inl (cI, n, .inl f))) (hin : vp_in i n) (hdg : decode cc pc = .ok (.iastore, 1))
    (kk : ∀ (H1 : Heap) (locs1 : List Loc), gG D A s.heap (w.set q0 (a, .inl (cI, n, .inl (upd f i.toNatClampNeg x)))) H1 locs1 → W p l e R s m args below meth c H1 locs1 cells slots Q (F0 m (pc + 1) ls rest)) : W p l e R s m args below meth c H locs cells slots Q (F0 m pc ls (.int x :: .int i :: .ref a :: rest)) :=
  va_iast B.1 B.2.1 hK hG.1 hG.2.1 hG.2.2 q0 0 ha rfl hin hdg (fun H1 l1 h1 h2 h3 => kk H1 l1 ⟨h1, h2, h3⟩)
theorem g_last {f : Nat → Int64} {i : Int32} {x : Int64} (hK : va_K D vwCl (gT cI cJ) s) (hG : gG D A s.heap w H locs) (B : CallFix p m c cc nL s args Ts own) (q0 : Nat) (ha : w[q0]? = some (a, .inl (cJ, n, .inr (.inl f)))) (hin : vp_in i n) (hdg : decode cc pc = .ok (.lastore, 1))
    (kk : ∀ (H1 : Heap) (locs1 : List Loc), gG D A s.heap (w.set q0 (a, .inl (cJ, n, .inr (.inl (vp_updL f i.toNatClampNeg x))))) H1 locs1 → W p l e R s m args below meth c H1 locs1 cells slots Q (F0 m (pc + 1) ls rest)) : W p l e R s m args below meth c H locs cells slots Q (F0 m pc ls (.long x :: .int i :: .ref a :: rest)) :=
  va_last B.1 B.2.1 hK hG.1 hG.2.1 hG.2.2 q0 1 ha rfl hin hdg (fun H1 l1 h1 h2 h3 => kk H1 l1 ⟨h1, h2, h3⟩)
theorem g_alenJ {f : Nat → Int64} {v : Int32} (hK : va_K D vwCl (gT cI cJ) s) (hG : gG D A s.heap w H locs) (B : CallFix p m c cc nL s args Ts own) (q0 : Nat) (ha : w[q0]? = some (a, .inl (cJ, n, .inr (.inl f)))) (hv : Int32.ofNat n = v) (hdg : decode cc pc = .ok (.arraylength, 1))
    (kk : W p l e R s m args below meth c H locs cells slots Q (F0 m (pc + 1) ls (.int v :: rest))) : W p l e R s m args below meth c H locs cells slots Q (F0 m pc ls (.ref a :: rest)) := va_alen B.1 B.2.1 hK hG.1 q0 1 ha rfl hv hdg kk
theorem in_of {i : Int32} {n : Nat} {N : Int32} (hN : N = Int32.ofNat n) (hn : n < 2 ^ 31) (h0 : ¬ i < 0) (h1 : ¬ N ≤ i) : vp_in i n := by
  rintro (h | h)
  · exact h0 h
  · obtain ⟨j, hj, rfl⟩ := nI_of h0
    rw [nI_clamp hj] at h
    exact h1 (hN ▸ nI_le h hj)
end GA
