/-! base: worlds that a call leaves at their addresses; contracts with an exact end; loops as iterated bodies -/
abbrev vwCl : List vw_C := [(RX0, TX0, 4), (RX1, TX1, 3), (RX2, TX2, 5), (RX3, TX3, 16)]
def gG (D : va_G) (A : Nat → Prop) (H0 : Heap) (w : va_W) (H : Heap) (locs : List Loc) : Prop := va_P D vwCl w H ∧ va_D A w ∧ va_S A H0 H locs
abbrev gT (cI cJ : ClassId) : List (ClassId × FieldType) := [(cI, .int), (cJ, .long)]
abbrev gPc (D : va_G) (tys : List (ClassId × FieldType)) (sz : Nat) (w : va_W) (av : List Value) : Array Value → State → Prop := va_Pc av (fun U => U.heap.size = sz ∧ va_P D vwCl w U.heap ∧ va_K D vwCl tys U ∧ va_D (fun _ => True) w)
def gB (D : va_G) (tys : List (ClassId × FieldType)) (A : Nat → Prop) (w1 : va_W) (t : State) : Prop := va_P D vwCl w1 t.heap ∧ va_K D vwCl tys t ∧ va_D A w1
abbrev gQi (D : va_G) (tys : List (ClassId × FieldType)) (A : Nat → Prop) (r : Int32) (w1 : va_W) : Array Value → State → Outcome → State → Prop := va_Qi (S := Unit) (fun x _ => x = r) (fun _ t => gB D tys A w1 t) A
abbrev gQl (D : va_G) (tys : List (ClassId × FieldType)) (A : Nat → Prop) (r : Int64) (w1 : va_W) : Array Value → State → Outcome → State → Prop := va_Ql (S := Unit) (fun x _ => x = r) (fun _ t => gB D tys A w1 t) A
abbrev gQv (D : va_G) (tys : List (ClassId × FieldType)) (A : Nat → Prop) (w1 : va_W) : Array Value → State → Outcome → State → Prop := va_Qv (S := Unit) (fun _ => True) (fun _ t => gB D tys A w1 t) A
theorem ob {α β : Type} {o : Option α} {k : α → Option β} {x : β} (h : o.bind k = some x) : ∃ a, o = some a ∧ k a = some x := by
  cases o with
  | none => cases h
  | some a => exact ⟨a, rfl, h⟩
theorem ifT {α : Type} {c : Prop} [Decidable c] {a b x : α} (hc : c) (h : (if c then a else b) = x) : a = x := by rwa [if_pos hc] at h
theorem ifF {α : Type} {c : Prop} [Decidable c] {a b x : α} (hc : ¬ c) (h : (if c then a else b) = x) : b = x := by rwa [if_neg hc] at h
abbrev inR (i : Int32) (n : Nat) : Prop := 0 ≤ i ∧ i.toNatClampNeg < n
theorem inR_vp {i : Int32} {n : Nat} (h : inR i n) : vp_in i n := fun q => q.elim (fun a => absurd h.1 (Int32.not_le.mpr a)) (fun a => Nat.not_le.mpr h.2 a)
def chk {α : Type} (i : Int32) (n : Nat) (k : Option α) : Option α := if inR i n then k else none
theorem chk_s {α : Type} {i : Int32} {n : Nat} {k : Option α} {x : α} (h : chk i n k = some x) : vp_in i n ∧ k = some x := by
  unfold chk at h
  by_cases hc : inR i n
  · rw [if_pos hc] at h
    exact ⟨inR_vp hc, h⟩
  · rw [if_neg hc] at h
    cases h
theorem se_r {α β γ : Type} {f : α → γ} {g : β → γ} {e : β} {x : γ} (h : Sum.elim f g (.inr e) = x) : g e = x := h
theorem se_l {α β γ : Type} {f : α → γ} {g : β → γ} {e : α} {x : γ} (h : Sum.elim f g (.inl e) = x) : f e = x := h
def itl {α β : Type} (b : α → Option (β ⊕ α)) : Nat → α → Option β
  | 0, _ => none
  | n + 1, a => (b a).bind (fun o => match o with
    | .inl x => some x
    | .inr a' => itl b n a')
theorem itl_0 {α β : Type} {b : α → Option (β ⊕ α)} {a : α} {x : β} (h : itl b 0 a = some x) : False := by cases h
theorem itl_s {α β : Type} {b : α → Option (β ⊕ α)} {n : Nat} {a : α} {x : β} (h : itl b (n + 1) a = some x) : ∃ o, b a = some o ∧ (∀ y, o = .inl y → y = x) ∧ (∀ a', o = .inr a' → itl b n a' = some x) := by
  obtain ⟨o, h1, h2⟩ := ob h
  refine ⟨o, h1, ?_, ?_⟩
  · intro y e
    subst e
    exact Option.some.inj h2
  · intro a' e
    subst e
    exact h2
