/-! calls with a frame, constructors -/
theorem gP_sub {D : va_G} {cl : List vw_C} {ws wc : va_W} {H : Heap} (hP : va_P D cl ws H) (isC : List Nat) (hC : isC.map (fun i => ws[i]?) = wc.map some) : va_P D cl wc H := by
  intro k q hk
  have h1 : (isC.map (fun i => ws[i]?))[k]? = some (some q) := by rw [hC, List.getElem?_map, hk]; rfl
  rw [List.getElem?_map] at h1
  cases hi : isC[k]? with
  | none => rw [hi] at h1; cases h1
  | some i => rw [hi] at h1; exact hP i q (Option.some.inj h1)
section GMC
variable {l : Launch} {D : va_G} {tys : List (ClassId × FieldType)} {w : va_W} {sz : Nat}
/-- a constructor's contract out of a walk from its entry -/
theorem gMetC {y : MethodName} {ws ws' : List Cond} {rm : Room} {Qc : Array Value → State → Outcome → State → Prop} {cc : ByteArray} {maxL mc ms : Nat} {ret : Option FieldType} {av : List Value}
    (hy : plainName y.cls = true) (hw : ws = Cond.code y cc maxL ret :: ws')
    (body : ∀ (p : Program) (e : Env) (s : State) (m : MethodId) (below : List Frame) (meth : Method) (c : Code) (ls : Array Slot), CallFix p m c cc maxL s av.toArray ws y.cls → meth.sig.returnType = ret → meth.locks = false → meth.name = y.name → s.heap.size = sz → va_K D vwCl tys s → gG D (va_A w sz) s.heap w s.heap [] → lv_has ls maxL (lv_args 0 av) →
      W p l e rm s m av.toArray below meth c s.heap [] 0 0 (MQ below Qc av.toArray s mc ms (va_A w sz)) (F0 m 0 ls [])) (hlen : (lg_sl av).length ≤ maxL) : Met l y ws rm (gPc D tys sz w av) Qc mc ms (va_A w sz) := by
  refine Met.ofW (cc := cc) (maxL := maxL) (ret := ret) hy hw ?_
  intro p e s m args below meth c s₁ B hml hv
  obtain ⟨rfl, hsz, hP, hK, hD0⟩ := hv
  have hts := atoms_spec (ws := ws) B.pre
  have hown : s.vm.findClass y.cls = some m.cls := findClass_of_methodNamed B.named
  have hnm : meth.name = y.name := (name_of_methodNamed B.named B.method).1
  have hl := lv_entry av hlen
  rw [lg_entry_eq]
  exact body p e s m below meth c _ ⟨B.exec, B.bytes, hml, hown, hts⟩ B.returns B.notSynchronized hnm hsz hK ⟨hP, by subst hsz; exact hD0.self, va_S.rf⟩ hl
end GMC
section GCF
variable {p : Program} {l : Launch} {e : Env} {R : Room} {s : State} {m : MethodId} {args : Array Value} {below : List Frame} {meth : Method} {c : Code} {H : Heap} {locs : List Loc} {cells slots : Nat} {Q : State → Prop}
variable {cc : ByteArray} {nL : Nat} {Ts : List Cond} {own : String} {D : va_G} {tys : List (ClassId × FieldType)} {A : Nat → Prop} {w wr wc w1 : va_W} {pc : Nat} {ls : Array Slot} {rest st0 As : List Value}
variable {y : MethodName} {bytes : ByteArray} {maxL n index mc ms : Nat} {ret : Option FieldType} {ws : List Cond} {rm : Room} {C : String} {b : Addr}
theorem gPreF (hK : va_K D vwCl tys s) (hP : va_P D vwCl wc H) {A1 : Nat → Prop} (hD : va_D A1 wc) {av : List Value} : ∀ U : State, U.heap = H → s.WarmedH U.vm → gPc D tys H.size wc av av.toArray U := fun U hU hW => ⟨rfl, by rw [hU], by rw [hU]; exact hP, va_K.moved hW.alike hK, hD.weaken (fun _ _ _ _ => trivial)⟩
theorem gl_Vi {r : Int32} (isC isR : List Nat) (hA : ∀ q : Nat, s.heap.size ≤ q → A q) (hK : va_K D vwCl tys s) (hl : ls.size = nL) (hG : gG D A s.heap w H locs) (B : CallFix p m c cc nL s args Ts own)
    (hM : Met l y ws rm (gPc D tys H.size wc (.ref b :: As)) (gQi D tys (va_A wc H.size) r w1) 0 0 (va_A wc H.size)) (cw : CallW R s args own C index y bytes maxL ret ws rm 0 0 n)
    (hC : isC.map (fun i => w[i]?) = wc.map some) (hR : isR.map (fun i => w[i]?) = wr.map some) (hnC : va_nd isC = true) (hnR : va_nd isR = true) (hdis : ∀ i ∈ isR, i ∉ isC)
    (q0 : Nat) {ci : Nat} {fs : List Value} {qc : vw_C} (he : wc[q0]? = some (b, .inr (ci, fs))) (hc : vwCl[ci]? = some qc) (hCq : qc.1 = C) (hn : As.length = n) (hst : st0 = As.reverse ++ .ref b :: rest) (hroom : (rest.map fun v => v.category).sum ≤ 8)
    (hdg : decode cc pc = .ok (.invokevirtual index, 3)) (hf : cells ≤ R.cells ∧ slots ≤ R.slots)
    (kk : ∀ (H1 : Heap) (locs1 : List Loc), gG D A s.heap (wr ++ w1) H1 locs1 → W p l e R s m args below meth c H1 locs1 cells slots Q (F0 m (pc + 3) ls (.int r :: rest))) : W p l e R s m args below meth c H locs cells slots Q (F0 m pc ls st0) := by
  have hPc := gP_sub hG.1 isC hC
  have hDc := hG.2.1.sub (ws' := wc) isC hnC hC
  have hF := va_free (wc := wc) hG.2.1 hG.2.2 hA isC hC
  subst hCq
  subst hst
  refine va_calli (va_runV (As := As) (rest := rest) B hM cw ⟨gBlind, va_recv hK hPc hc he, gPreF hK hPc hDc⟩ rfl hn hl rfl (lv_room hroom) hdg ⟨hf.1, hf.2⟩) hG.2.2 (fun q _ h => hF q h) hF (fun r' u t H1 locs1 ht hvm hw hB hz1 hk1 hS1 => ?_)
  obtain ⟨hP1, hK1, hD1⟩ := hB
  rw [ht] at hP1
  have hw : r' = r := hw
  subst hw
  obtain ⟨hP, hD⟩ := va_join (wr := wr) (w1 := w1) hG.1 hG.2.1 isC isR hC hR hnR hdis hk1 hF hP1 hD1
  exact kk H1 locs1 ⟨hP, hD, hS1⟩
theorem gl_Vl {r : Int64} (isC isR : List Nat) (hA : ∀ q : Nat, s.heap.size ≤ q → A q) (hK : va_K D vwCl tys s) (hl : ls.size = nL) (hG : gG D A s.heap w H locs) (B : CallFix p m c cc nL s args Ts own)
    (hM : Met l y ws rm (gPc D tys H.size wc (.ref b :: As)) (gQl D tys (va_A wc H.size) r w1) 0 0 (va_A wc H.size)) (cw : CallW R s args own C index y bytes maxL ret ws rm 0 0 n)
    (hC : isC.map (fun i => w[i]?) = wc.map some) (hR : isR.map (fun i => w[i]?) = wr.map some) (hnC : va_nd isC = true) (hnR : va_nd isR = true) (hdis : ∀ i ∈ isR, i ∉ isC)
    (q0 : Nat) {ci : Nat} {fs : List Value} {qc : vw_C} (he : wc[q0]? = some (b, .inr (ci, fs))) (hc : vwCl[ci]? = some qc) (hCq : qc.1 = C) (hn : As.length = n) (hst : st0 = As.reverse ++ .ref b :: rest) (hroom : (rest.map fun v => v.category).sum ≤ 8)
    (hdg : decode cc pc = .ok (.invokevirtual index, 3)) (hf : cells ≤ R.cells ∧ slots ≤ R.slots)
    (kk : ∀ (H1 : Heap) (locs1 : List Loc), gG D A s.heap (wr ++ w1) H1 locs1 → W p l e R s m args below meth c H1 locs1 cells slots Q (F0 m (pc + 3) ls (.long r :: rest))) : W p l e R s m args below meth c H locs cells slots Q (F0 m pc ls st0) := by
  have hPc := gP_sub hG.1 isC hC
  have hDc := hG.2.1.sub (ws' := wc) isC hnC hC
  have hF := va_free (wc := wc) hG.2.1 hG.2.2 hA isC hC
  subst hCq
  subst hst
  refine va_calll (va_runV (As := As) (rest := rest) B hM cw ⟨gBlind, va_recv hK hPc hc he, gPreF hK hPc hDc⟩ rfl hn hl rfl (lv_room hroom) hdg ⟨hf.1, hf.2⟩) hG.2.2 (fun q _ h => hF q h) hF (fun r' u t H1 locs1 ht hvm hw hB hz1 hk1 hS1 => ?_)
  obtain ⟨hP1, hK1, hD1⟩ := hB
  rw [ht] at hP1
  have hw : r' = r := hw
  subst hw
  obtain ⟨hP, hD⟩ := va_join (wr := wr) (w1 := w1) hG.1 hG.2.1 isC isR hC hR hnR hdis hk1 hF hP1 hD1
  exact kk H1 locs1 ⟨hP, hD, hS1⟩
/-- a constructor's call: what it makes comes to its own cells -/
theorem gl_I {S : Type} {wf : S → va_W} (isC isR : List Nat) (hA : ∀ q : Nat, s.heap.size ≤ q → A q) (hK : va_K D vwCl tys s) (hl : ls.size = nL) (hG : gG D A s.heap w H locs) (B : CallFix p m c cc nL s args Ts own)
    (hM : Met l y ws rm (gPc D tys H.size wc [.ref b]) (va_Qv (S := S) (fun _ => True) (fun u t => gB D tys (va_A wc H.size) (wf u) t) (va_A wc H.size)) mc ms (va_A wc H.size)) (cw : CallB R s args own index y bytes maxL none ws rm mc ms 0 ∧ y.name = "<init>" ∧ (Cond.instanceMethod y).before args s = true)
    (hC : isC.map (fun i => w[i]?) = wc.map some) (hR : isR.map (fun i => w[i]?) = wr.map some) (hnC : va_nd isC = true) (hnR : va_nd isR = true) (hdis : ∀ i ∈ isR, i ∉ isC) (hroom : (rest.map fun v => v.category).sum ≤ 8)
    (hdg : decode cc pc = .ok (.invokespecial index, 3)) (hf : cells + mc ≤ R.cells ∧ slots + ms ≤ R.slots)
    (kk : ∀ (u : S) (H1 : Heap) (locs1 : List Loc), gG D A s.heap (wr ++ wf u) H1 locs1 → W p l e R s m args below meth c H1 locs1 (cells + mc) (slots + ms) Q (F0 m (pc + 3) ls rest)) : W p l e R s m args below meth c H locs cells slots Q (F0 m pc ls (.ref b :: rest)) := by
  have hPc := gP_sub hG.1 isC hC
  have hDc := hG.2.1.sub (ws' := wc) isC hnC hC
  have hF := va_free (wc := wc) hG.2.1 hG.2.2 hA isC hC
  refine va_callv (va_runI (As := []) (rest := rest) B hM cw ⟨gBlind, gPreF hK hPc hDc⟩ rfl rfl hl rfl (lv_room hroom) hdg hf) hG.2.2 (fun q _ h => hF q h) hF (fun u t H1 locs1 ht hvm hw hB hz1 hk1 hS1 => ?_)
  obtain ⟨hP1, hK1, hD1⟩ := hB
  rw [ht] at hP1
  obtain ⟨hP, hD⟩ := va_join (wr := wr) (w1 := wf u) hG.1 hG.2.1 isC isR hC hR hnR hdis hk1 hF hP1 hD1
  exact kk u H1 locs1 ⟨hP, hD, hS1⟩
theorem g_putF {T : u_T} {N ci : Nat} {a : Nat} {fs : List Value} {v : Value} {ty0 : Nat → FieldType} {ty : FieldType} (hK : va_K D vwCl tys s) (hG : gG D A s.heap w H locs) (B : CallFix p m c cc nL s args Ts own) (hin : ∀ x ∈ u_ws C T N, x ∈ Ts) (hty : ∀ k, k < N → parseFieldDescriptor (T k).2.2.1 = some (ty0 k)) (hnm : ∀ a, a < N → ∀ b, b < N → a ≠ b → (T a).2.1 ≠ (T b).2.1)
    (q0 : Nat) (he : w[q0]? = some (a, .inr (ci, fs))) (hc : vwCl[ci]? = some (C, T, N)) (k : Nat) (hk : k < N) (hm : Cond.fieldLink own index (T k).1 (T k).2.1 (T k).2.2.1 ∈ Ts) (hfin : (T k).2.2.2 = true) (hini : meth.name = "<init>") (hdecl : (T k).1 = own) (hd : ty0 k = ty) (hnr : narrow ty v = v) (hfit : fits ty v = true) (hlen : k < fs.length) (hdg : decode cc pc = .ok (.putfield index, 3))
    (kk : ∀ (H1 : Heap) (locs1 : List Loc), gG D A s.heap (w.set q0 (a, .inr (ci, fs.set k v))) H1 locs1 → W p l e R s m args below meth c H1 locs1 cells slots Q (F0 m (pc + 3) ls rest)) : W p l e R s m args below meth c H locs cells slots Q (F0 m pc ls (v :: .ref a :: rest)) :=
  va_putF (D := D) (ci := ci) (v := v) (ty := ty) (C := C) (T := T) (N := N) B.1 B.2.1 B.2.2.2.2 hin ty0 hty hnm B.2.2.2.1 hK hG.1 hG.2.1 hG.2.2 q0 he hc k hk (B.2.2.2.2 _ hm) (fun _ h => h) hfin hini hdecl (by rw [hty k hk, hd]) hnr hfit hlen hdg (fun H1 l1 h1 h2 h3 => kk H1 l1 ⟨h1, h2, h3⟩)
theorem g_new {T : u_T} {N ci : Nat} {fs : List Value} {ty0 : Nat → FieldType} (hA : ∀ q : Nat, s.heap.size ≤ q → A q) (hK : va_K D vwCl tys s) (hG : gG D A s.heap w H locs) (B : CallFix p m c cc nL s args Ts own) (hin : ∀ x ∈ u_ws C T N, x ∈ Ts) (hty : ∀ k, k < N → parseFieldDescriptor (T k).2.2.1 = some (ty0 k)) (hm1 : Cond.classLink own index C ∈ Ts) (hm2 : Cond.instantiable C N ∈ Ts) (hm3 : Cond.initialized C ∈ Ts) (hc : vwCl[ci]? = some (C, T, N)) (hfs : ∀ j, j < N → defaultValue (ty0 j) = vp_V fs j) (hcells : cells + 1 ≤ R.cells) (hslots : slots + N ≤ R.slots) (hdg : decode cc pc = .ok (.new index, 3))
    (kk : ∀ (q : Nat) (H1 : Heap), gG D A s.heap (w ++ [(q, .inr (ci, fs))]) H1 locs → W p l e R s m args below meth c H1 locs (cells + 1) (slots + N) Q (F0 m (pc + 3) ls (.ref q :: rest))) : W p l e R s m args below meth c H locs cells slots Q (F0 m pc ls rest) :=
  va_new (ci := ci) (fs := fs) (C := C) (T := T) (N := N) B.1 B.2.1 B.2.2.2.2 hin ty0 hty B.2.2.2.1 (B.2.2.2.2 _ hm1) (B.2.2.2.2 _ hm2) (B.2.2.2.2 _ hm3) hK hG.1 hG.2.1 hG.2.2 hA hc hfs hcells hslots hdg (fun q H1 h1 h2 h3 => kk q H1 ⟨h1, h2, h3⟩)
end GCF
section GCA
variable {p : Program} {l : Launch} {e : Env} {R : Room} {s : State} {m : MethodId} {args : Array Value} {below : List Frame} {meth : Method} {c : Code} {H : Heap} {locs : List Loc} {cells slots : Nat} {Q : State → Prop}
variable {cc : ByteArray} {nL : Nat} {Ts : List Cond} {own : String} {D : va_G} {cI cJ : ClassId} {A : Nat → Prop} {w : va_W} {pc : Nat} {ls : Array Slot} {rest : List Value}
theorem g_newL (N : Nat) (hA : ∀ q : Nat, s.heap.size ≤ q → A q) (hK : va_K D vwCl (gT cI cJ) s) (hG : gG D A s.heap w H locs) (B : CallFix p m c cc nL s args Ts own) (hm : Cond.arrayClass .long ∈ Ts) {v : Int32} (hv : ¬ v < 0) (hN : v.toNatClampNeg = N) (hb : N * componentBytes .long ≤ 536870912) (hcells : cells + 1 ≤ R.cells) (hslots : slots + N ≤ R.slots) (hdg : decode cc pc = .ok (.newarray .long, 2))
    (kk : ∀ (q : Nat) (H1 : Heap), gG D A s.heap (w ++ [(q, .inl (cJ, N, .inr (.inl (fun _ => 0))))]) H1 locs → W p l e R s m args below meth c H1 locs (cells + 1) (slots + N) Q (F0 m (pc + 2) ls (.ref q :: rest))) : W p l e R s m args below meth c H locs cells slots Q (F0 m pc ls (.int v :: rest)) := by
  refine va_newa (atype := .long) (a0 := (N, .inr (.inl (fun _ => 0)))) B.1 B.2.1 (B.2.2.2.2 _ hm) rfl hK hG.1 hG.2.1 hG.2.2 hA (fun _ => rfl) hv hN hb hcells hslots hdg (fun q cA H1 k1 h1 h2 h3 => ?_)
  have e1 : s.vm.findClass ("[" ++ (FieldType.long).toString) = some cA := (k1.2 2 (cA, .long) rfl).2
  have e2 : s.vm.findClass ("[" ++ (FieldType.long).toString) = some cJ := (hK.2 1 (cJ, .long) rfl).2
  have : cA = cJ := Option.some.inj (e1.symm.trans e2)
  subst this
  exact kk q H1 ⟨h1, h2, h3⟩
theorem g_newI (N : Nat) (hA : ∀ q : Nat, s.heap.size ≤ q → A q) (hK : va_K D vwCl (gT cI cJ) s) (hG : gG D A s.heap w H locs) (B : CallFix p m c cc nL s args Ts own) (hm : Cond.arrayClass .int ∈ Ts) {v : Int32} (hv : ¬ v < 0) (hN : v.toNatClampNeg = N) (hb : N * componentBytes .int ≤ 536870912) (hcells : cells + 1 ≤ R.cells) (hslots : slots + N ≤ R.slots) (hdg : decode cc pc = .ok (.newarray .int, 2))
    (kk : ∀ (q : Nat) (H1 : Heap), gG D A s.heap (w ++ [(q, .inl (cI, N, .inl (fun _ => 0)))]) H1 locs → W p l e R s m args below meth c H1 locs (cells + 1) (slots + N) Q (F0 m (pc + 2) ls (.ref q :: rest))) : W p l e R s m args below meth c H locs cells slots Q (F0 m pc ls (.int v :: rest)) := by
  refine va_newa (atype := .int) (a0 := (N, .inl (fun _ => 0))) B.1 B.2.1 (B.2.2.2.2 _ hm) rfl hK hG.1 hG.2.1 hG.2.2 hA (fun _ => rfl) hv hN hb hcells hslots hdg (fun q cA H1 k1 h1 h2 h3 => ?_)
  have e1 : s.vm.findClass ("[" ++ (FieldType.int).toString) = some cA := (k1.2 2 (cA, .int) rfl).2
  have e2 : s.vm.findClass ("[" ++ (FieldType.int).toString) = some cI := (hK.2 0 (cI, .int) rfl).2
  have : cA = cI := Option.some.inj (e1.symm.trans e2)
  subst this
  exact kk q H1 ⟨h1, h2, h3⟩
end GCA
/-- the link to the plan's own constructor, which is a nest mate's -/
abbrev nkP : Cond := .methodLinkNest RX2 18 yX1_init "BlockMover"
abbrev gPcN (D : va_G) (tys : List (ClassId × FieldType)) (sz : Nat) (w : va_W) (av : List Value) : Array Value → State → Prop := va_Pc av (fun U => (U.heap.size = sz ∧ va_P D vwCl w U.heap ∧ va_K D vwCl tys U ∧ va_D (fun _ => True) w) ∧ va_Nw nkP U)
theorem gBlindN {D : va_G} {tys : List (ClassId × FieldType)} {w : va_W} {sz : Nat} {av : List Value} : FrameBlind (gPcN D tys sz w av) := fun a U g mk q => by
  obtain ⟨q0, ⟨q1, qP, qK, qD⟩, qN⟩ := q
  exact ⟨q0, ⟨q1, qP, va_K.moved (u := U) (U := U.calling g mk a) (Vm.Alike.refl U.vm) qK, qD⟩, va_Nw.same rfl rfl qN⟩
section GMN
variable {l : Launch} {D : va_G} {tys : List (ClassId × FieldType)} {w : va_W} {sz : Nat}
theorem gMetN {y : MethodName} {ws ws' : List Cond} {rm : Room} {Qc : Array Value → State → Outcome → State → Prop} {cc : ByteArray} {maxL mc ms : Nat} {ret : Option FieldType} {av : List Value}
    (hy : plainName y.cls = true) (hw : ws = Cond.code y cc maxL ret :: ws')
    (body : ∀ (p : Program) (e : Env) (s : State) (m : MethodId) (below : List Frame) (meth : Method) (c : Code) (ls : Array Slot), CallFix p m c cc maxL s av.toArray ws y.cls → meth.sig.returnType = ret → meth.locks = false → meth.name = y.name → s.heap.size = sz → va_K D vwCl tys s → va_Nw nkP s → gG D (va_A w sz) s.heap w s.heap [] → lv_has ls maxL (lv_args 0 av) →
      W p l e rm s m av.toArray below meth c s.heap [] 0 0 (MQ below Qc av.toArray s mc ms (va_A w sz)) (F0 m 0 ls [])) (hlen : (lg_sl av).length ≤ maxL) : Met l y ws rm (gPcN D tys sz w av) Qc mc ms (va_A w sz) := by
  refine Met.ofW (cc := cc) (maxL := maxL) (ret := ret) hy hw ?_
  intro p e s m args below meth c s₁ B hml hv
  obtain ⟨rfl, ⟨hsz, hP, hK, hD0⟩, hN⟩ := hv
  have hts := atoms_spec (ws := ws) B.pre
  have hown : s.vm.findClass y.cls = some m.cls := findClass_of_methodNamed B.named
  have hnm : meth.name = y.name := (name_of_methodNamed B.named B.method).1
  have hl := lv_entry av hlen
  rw [lg_entry_eq]
  exact body p e s m below meth c _ ⟨B.exec, B.bytes, hml, hown, hts⟩ B.returns B.notSynchronized hnm hsz hK hN ⟨hP, by subst hsz; exact hD0.self, va_S.rf⟩ hl
end GMN
section GCN
variable {p : Program} {l : Launch} {e : Env} {R : Room} {s : State} {m : MethodId} {args : Array Value} {below : List Frame} {meth : Method} {c : Code} {H : Heap} {locs : List Loc} {cells slots : Nat} {Q : State → Prop}
variable {cc : ByteArray} {nL : Nat} {Ts : List Cond} {own host : String} {D : va_G} {tys : List (ClassId × FieldType)} {A : Nat → Prop} {w wr wc : va_W} {pc : Nat} {ls : Array Slot} {rest : List Value}
variable {y : MethodName} {bytes : ByteArray} {maxL index mc ms : Nat} {ws : List Cond} {rm : Room} {b : Addr}
theorem gl_Inest {S : Type} {wf : S → va_W} (isC isR : List Nat) (hA : ∀ q : Nat, s.heap.size ≤ q → A q) (hK : va_K D vwCl tys s) (hl : ls.size = nL) (hG : gG D A s.heap w H locs) (B : CallFix p m c cc nL s args Ts own)
    (hM : Met l y ws rm (gPc D tys H.size wc [.ref b]) (va_Qv (S := S) (fun _ => True) (fun u t => gB D tys (va_A wc H.size) (wf u) t) (va_A wc H.size)) mc ms (va_A wc H.size)) (cw : va_CN R s args own index y host bytes maxL none ws rm mc ms 0 ∧ y.name = "<init>" ∧ (Cond.instanceMethod y).before args s = true)
    (hC : isC.map (fun i => w[i]?) = wc.map some) (hR : isR.map (fun i => w[i]?) = wr.map some) (hnC : va_nd isC = true) (hnR : va_nd isR = true) (hdis : ∀ i ∈ isR, i ∉ isC) (hroom : (rest.map fun v => v.category).sum ≤ 8)
    (hdg : decode cc pc = .ok (.invokespecial index, 3)) (hf : cells + mc ≤ R.cells ∧ slots + ms ≤ R.slots)
    (kk : ∀ (u : S) (H1 : Heap) (locs1 : List Loc), gG D A s.heap (wr ++ wf u) H1 locs1 → W p l e R s m args below meth c H1 locs1 (cells + mc) (slots + ms) Q (F0 m (pc + 3) ls rest)) : W p l e R s m args below meth c H locs cells slots Q (F0 m pc ls (.ref b :: rest)) := by
  have hPc := gP_sub hG.1 isC hC
  have hDc := hG.2.1.sub (ws' := wc) isC hnC hC
  have hF := va_free (wc := wc) hG.2.1 hG.2.2 hA isC hC
  refine va_callv (va_runIN (As := []) (rest := rest) B hM cw ⟨gBlind, gPreF hK hPc hDc⟩ rfl rfl hl rfl (lv_room hroom) hdg hf) hG.2.2 (fun q _ h => hF q h) hF (fun u t H1 locs1 ht hvm hw hB hz1 hk1 hS1 => ?_)
  obtain ⟨hP1, hK1, hD1⟩ := hB
  rw [ht] at hP1
  obtain ⟨hP, hD⟩ := va_join (wr := wr) (w1 := wf u) hG.1 hG.2.1 isC isR hC hR hnR hdis hk1 hF hP1 hD1
  exact kk u H1 locs1 ⟨hP, hD, hS1⟩
theorem gl_IN {S : Type} {wf : S → va_W} (isC isR : List Nat) (hA : ∀ q : Nat, s.heap.size ≤ q → A q) (hK : va_K D vwCl tys s) (hN : va_Nw nkP s) (hl : ls.size = nL) (hG : gG D A s.heap w H locs) (B : CallFix p m c cc nL s args Ts own)
    (hM : Met l y ws rm (gPcN D tys H.size wc [.ref b]) (va_Qv (S := S) (fun _ => True) (fun u t => gB D tys (va_A wc H.size) (wf u) t) (va_A wc H.size)) mc ms (va_A wc H.size)) (cw : CallB R s args own index y bytes maxL none ws rm mc ms 0 ∧ y.name = "<init>" ∧ (Cond.instanceMethod y).before args s = true)
    (hC : isC.map (fun i => w[i]?) = wc.map some) (hR : isR.map (fun i => w[i]?) = wr.map some) (hnC : va_nd isC = true) (hnR : va_nd isR = true) (hdis : ∀ i ∈ isR, i ∉ isC) (hroom : (rest.map fun v => v.category).sum ≤ 8)
    (hdg : decode cc pc = .ok (.invokespecial index, 3)) (hf : cells + mc ≤ R.cells ∧ slots + ms ≤ R.slots)
    (kk : ∀ (u : S) (H1 : Heap) (locs1 : List Loc), gG D A s.heap (wr ++ wf u) H1 locs1 → W p l e R s m args below meth c H1 locs1 (cells + mc) (slots + ms) Q (F0 m (pc + 3) ls rest)) : W p l e R s m args below meth c H locs cells slots Q (F0 m pc ls (.ref b :: rest)) := by
  have hPc := gP_sub hG.1 isC hC
  have hDc := hG.2.1.sub (ws' := wc) isC hnC hC
  have hF := va_free (wc := wc) hG.2.1 hG.2.2 hA isC hC
  refine va_callv (va_runI (As := []) (rest := rest) B hM cw ⟨gBlindN, fun U hU hW => ⟨rfl, ⟨by rw [hU], by rw [hU]; exact hPc, va_K.moved hW.alike hK, hDc.weaken (fun _ _ _ _ => trivial)⟩, va_Nw.warmM hW hN⟩⟩ rfl rfl hl rfl (lv_room hroom) hdg hf) hG.2.2 (fun q _ h => hF q h) hF (fun u t H1 locs1 ht hvm hw hB hz1 hk1 hS1 => ?_)
  obtain ⟨hP1, hK1, hD1⟩ := hB
  rw [ht] at hP1
  obtain ⟨hP, hD⟩ := va_join (wr := wr) (w1 := wf u) hG.1 hG.2.1 isC isR hC hR hnR hdis hk1 hF hP1 hD1
  exact kk u H1 locs1 ⟨hP, hD, hS1⟩
end GCN
