/-! the law's own methods: they catch -/
def xPl : List (String × String) := [("java/lang/IllegalArgumentException", "java/lang/IllegalStateException"), ("java/lang/IllegalArgumentException", "java/lang/IndexOutOfBoundsException"), ("java/lang/IllegalArgumentException", "java/util/NoSuchElementException"), ("java/lang/IllegalStateException", "java/lang/IllegalArgumentException"), ("java/lang/IllegalStateException", "java/lang/IndexOutOfBoundsException"), ("java/lang/IllegalStateException", "java/util/NoSuchElementException"), ("java/lang/IndexOutOfBoundsException", "java/lang/IllegalArgumentException"), ("java/lang/IndexOutOfBoundsException", "java/lang/IllegalStateException"), ("java/lang/IndexOutOfBoundsException", "java/util/NoSuchElementException"), ("java/util/NoSuchElementException", "java/lang/IllegalArgumentException"), ("java/util/NoSuchElementException", "java/lang/IllegalStateException"), ("java/util/NoSuchElementException", "java/lang/IndexOutOfBoundsException")]
def KX (U : State) : Prop := ∀ q ∈ xPl, va_Nc q.1 q.2 U
theorem KX.moved {u U : State} (hvm : u.vm.Alike U.vm) (h : KX u) : KX U := fun q hq => (h q hq).moved hvm
def PH (D : va_G) (cI cZ cL : ClassId) (av : List Value) (ws : va_W) (sz : Nat) : Array Value → State → Prop := va_Pc av (fun U => U.heap.size = sz ∧ va_P D vwCl ws U.heap ∧ K0 D cI cZ cL U ∧ va_D (fun _ => True) ws ∧ KS U ∧ KZ (va_A ws sz) U U.heap ∧ KX U)
theorem PH_blind {D : va_G} {cI cZ cL : ClassId} {av : List Value} {ws : va_W} {sz : Nat} : FrameBlind (PH D cI cZ cL av ws sz) := fun _ U g mk q => ⟨q.1, q.2.1, q.2.2.1, q.2.2.2.1.calling, q.2.2.2.2.1, q.2.2.2.2.2.1.calling, KZ.moved (u := U) (U := U.calling g mk _) (Vm.Alike.refl U.vm) q.2.2.2.2.2.2.1, KX.moved (u := U) (U := U.calling g mk _) (Vm.Alike.refl U.vm) q.2.2.2.2.2.2.2⟩
theorem zz_ofWH {l : Launch} {y : MethodName} {ws ws' : List Cond} {rm : Room} {Pc : Array Value → State → Prop} {Qc : Array Value → State → Outcome → State → Prop} {mc ms : Nat} {free : Addr → Prop} {cc : ByteArray} {maxL : Nat} {ret : Option FieldType} {hh : List (Nat × Nat × Nat × Nat)}
    (hy : plainName y.cls = true) (hw : ws = Cond.codeWith y cc maxL ret hh :: ws')
    (body : ∀ p e s m args below meth c s₁, BodyLoose p l y (headSpec ws rm) cc maxL ret e s m args below meth c s₁ → c.maxLocals = maxL → Pc args s →
      W p l e (headSpec ws rm).room s m args below meth c s.heap [] 0 0 (MQ below Qc args s mc ms free) (entryFrame m args maxL)) : Met l y ws rm Pc Qc mc ms free := by
  refine MetFree.of_bodyS (code := cc) (maxLocals := maxL) (ret := ret) hy ?_ ?_
  · intro args s m h hn
    obtain ⟨m9, meth, c, hn9, h1, h2, h3, h4, -, h5, h6, -⟩ := Cond.codeWith_spec (atoms_spec (ws := ws) h _ (by rw [hw]; exact List.mem_cons_self))
    cases hn.symm.trans hn9
    exact ⟨meth, c, h1, h2, h3, h4, h5, h6⟩
  · intro p e s m args below meth c s₁ B hml hP _
    have hh0 : s₁.heap = s.heap := by rw [B.state]; rfl
    obtain ⟨t, a1, o, b1, b2, b3⟩ := body p e s m args below meth c s₁ B hml hP s₁ hh0 (Stand.of_body B)
    exact ⟨t, o, a1, b1, b2, ⟨b3.1, b3.2⟩⟩
section ZH
variable {p : Program} {l : Launch} {e : Env} {R : Room} {s : State} {m : MethodId} {args : Array Value} {below : List Frame} {meth : Method} {c : Code} {H : Heap} {locs : List Loc} {cells slots : Nat} {Q : State → Prop}
variable {pc : Nat} {ls : Array Slot} {rest st0 : List Value} {a : Array Value} {mc ms : Nat}
variable {y : MethodName} {bytes cc : ByteArray} {maxL nL n index : Nat} {ret : Option FieldType} {hh : List (Nat × Nat × Nat × Nat)} {ws : List Cond} {rm : Room} {Ts : List Cond} {own C : String} {b : Addr} {As : List Value} {D : va_G} {cI cZ cL : ClassId} {wc wt wr w1 wt' : va_W} {A0 : Nat → Prop} {rv : Option Value}
/-- a call of one of them -/
theorem zz_hS (S : CallFix p m c cc nL s args Ts own) (hM : Met l y ws rm (PH D cI cZ cL As wc H.size) (QM D rv (va_A wc H.size) w1) mc ms (va_A wc H.size)) (cw : vx_CSW R s args own index y bytes maxL ret hh ws rm mc ms n)
    (hP : va_P D vwCl wt H) (hD : va_D A0 wt) (hS : va_S A0 s.heap H locs) (hA : ∀ q, s.heap.size ≤ q → A0 q) (hK : K0 D cI cZ cL s) (hKS : KS s) (hKZ : KZ A0 s s.heap) (hKX : KX s) (isC isR isP : List Nat) (hC : isC.map (fun i => wt[i]?) = wc.map some) (hR : isR.map (fun i => wt[i]?) = wr.map some) (hn : va_nd isR = true) (hdis : ∀ i ∈ isR, i ∉ isC) (hp : isP.map (fun i => (wr ++ w1)[i]?) = wt'.map some) (hpn : va_nd isP = true) (hcn : va_nd isC = true)
    (hna : As.length = n) (hsize : ls.size = nL) (hst : st0 = As.reverse ++ rest) (hW : (rest.map fun v => v.category).sum ≤ 8)
    (hdg : decode cc pc = .ok (.invokestatic index, 3)) (hf : cells + mc ≤ R.cells ∧ slots + ms ≤ R.slots)
    (kk : ∀ (H1 : Heap) (locs1 : List Loc), va_P D vwCl wt' H1 → va_D A0 wt' → va_S A0 s.heap H1 locs1 → H.size ≤ H1.size → W p l e R s m args below meth c H1 locs1 (cells + mc) (slots + ms) Q (F0 m (pc + 3) ls (rv.toList ++ rest))) : W p l e R s m args below meth c H locs cells slots Q (F0 m pc ls st0) :=
  zz_m (vx_runSW S hM cw ⟨PH_blind, fun U hU hW => ⟨rfl, by rw [hU], by rw [hU]; exact hP.sub isC (zz_fm hC), hK.warm hW, (hD.sub isC hcn hC).weaken (fun _ _ _ _ => trivial), hKS.warm hW, by rw [hU]; exact ((hKZ.kept (fun q h1 h2 => hS.2.1 q h1 h2)).narrow (va_free (wc := wc) hD hS hA isC hC)).moved hW.alike, hKX.moved hW.alike⟩⟩ rfl hna hsize hst (lv_room hW) hdg hf) hP hD hS hA isC isR isP hC hR hn hdis hp hpn kk
end ZH
def bh1 {A1 ρ : Type} (x : Option (String ⊕ (A1))) (hx : String → Option ρ) (k : A1 → Option ρ) : Option ρ := match x with
  | none => none
  | some (.inl E) => hx E
  | some (.inr q) => k q
theorem bh1_r {A1 ρ : Type} {x : Option (String ⊕ (A1))} {hx : String → Option ρ} {k : A1 → Option ρ} {r : ρ} (h : bh1 x hx k = some r) : ∃ Rr : String ⊕ (A1), x = some Rr ∧ (∀ E, Rr = .inl E → hx E = some r) ∧ (∀ (x1 : A1), Rr = .inr x1 → k x1 = some r) := by
  cases x with
  | none => cases h
  | some R =>
    refine ⟨R, rfl, fun E hE => ?_, fun x1 hu => ?_⟩
    · subst hE; exact h
    · subst hu; exact h
def bh2 {A1 A2 ρ : Type} (x : Option (String ⊕ (A1 × A2))) (hx : String → Option ρ) (k : A1 → A2 → Option ρ) : Option ρ := match x with
  | none => none
  | some (.inl E) => hx E
  | some (.inr q) => k q.1 q.2
theorem bh2_r {A1 A2 ρ : Type} {x : Option (String ⊕ (A1 × A2))} {hx : String → Option ρ} {k : A1 → A2 → Option ρ} {r : ρ} (h : bh2 x hx k = some r) : ∃ Rr : String ⊕ (A1 × A2), x = some Rr ∧ (∀ E, Rr = .inl E → hx E = some r) ∧ (∀ (x1 : A1) (x2 : A2), Rr = .inr (x1, x2) → k x1 x2 = some r) := by
  cases x with
  | none => cases h
  | some R =>
    refine ⟨R, rfl, fun E hE => ?_, fun x1 x2 hu => ?_⟩
    · subst hE; exact h
    · subst hu; exact h
def bh3 {A1 A2 A3 ρ : Type} (x : Option (String ⊕ (A1 × A2 × A3))) (hx : String → Option ρ) (k : A1 → A2 → A3 → Option ρ) : Option ρ := match x with
  | none => none
  | some (.inl E) => hx E
  | some (.inr q) => k q.1 q.2.1 q.2.2
theorem bh3_r {A1 A2 A3 ρ : Type} {x : Option (String ⊕ (A1 × A2 × A3))} {hx : String → Option ρ} {k : A1 → A2 → A3 → Option ρ} {r : ρ} (h : bh3 x hx k = some r) : ∃ Rr : String ⊕ (A1 × A2 × A3), x = some Rr ∧ (∀ E, Rr = .inl E → hx E = some r) ∧ (∀ (x1 : A1) (x2 : A2) (x3 : A3), Rr = .inr (x1, x2, x3) → k x1 x2 x3 = some r) := by
  cases x with
  | none => cases h
  | some R =>
    refine ⟨R, rfl, fun E hE => ?_, fun x1 x2 x3 hu => ?_⟩
    · subst hE; exact h
    · subst hu; exact h
def bh4 {A1 A2 A3 A4 ρ : Type} (x : Option (String ⊕ (A1 × A2 × A3 × A4))) (hx : String → Option ρ) (k : A1 → A2 → A3 → A4 → Option ρ) : Option ρ := match x with
  | none => none
  | some (.inl E) => hx E
  | some (.inr q) => k q.1 q.2.1 q.2.2.1 q.2.2.2
theorem bh4_r {A1 A2 A3 A4 ρ : Type} {x : Option (String ⊕ (A1 × A2 × A3 × A4))} {hx : String → Option ρ} {k : A1 → A2 → A3 → A4 → Option ρ} {r : ρ} (h : bh4 x hx k = some r) : ∃ Rr : String ⊕ (A1 × A2 × A3 × A4), x = some Rr ∧ (∀ E, Rr = .inl E → hx E = some r) ∧ (∀ (x1 : A1) (x2 : A2) (x3 : A3) (x4 : A4), Rr = .inr (x1, x2, x3, x4) → k x1 x2 x3 x4 = some r) := by
  cases x with
  | none => cases h
  | some R =>
    refine ⟨R, rfl, fun E hE => ?_, fun x1 x2 x3 x4 hu => ?_⟩
    · subst hE; exact h
    · subst hu; exact h
def bh5 {A1 A2 A3 A4 A5 ρ : Type} (x : Option (String ⊕ (A1 × A2 × A3 × A4 × A5))) (hx : String → Option ρ) (k : A1 → A2 → A3 → A4 → A5 → Option ρ) : Option ρ := match x with
  | none => none
  | some (.inl E) => hx E
  | some (.inr q) => k q.1 q.2.1 q.2.2.1 q.2.2.2.1 q.2.2.2.2
theorem bh5_r {A1 A2 A3 A4 A5 ρ : Type} {x : Option (String ⊕ (A1 × A2 × A3 × A4 × A5))} {hx : String → Option ρ} {k : A1 → A2 → A3 → A4 → A5 → Option ρ} {r : ρ} (h : bh5 x hx k = some r) : ∃ Rr : String ⊕ (A1 × A2 × A3 × A4 × A5), x = some Rr ∧ (∀ E, Rr = .inl E → hx E = some r) ∧ (∀ (x1 : A1) (x2 : A2) (x3 : A3) (x4 : A4) (x5 : A5), Rr = .inr (x1, x2, x3, x4, x5) → k x1 x2 x3 x4 x5 = some r) := by
  cases x with
  | none => cases h
  | some R =>
    refine ⟨R, rfl, fun E hE => ?_, fun x1 x2 x3 x4 x5 hu => ?_⟩
    · subst hE; exact h
    · subst hu; exact h
def bh6 {A1 A2 A3 A4 A5 A6 ρ : Type} (x : Option (String ⊕ (A1 × A2 × A3 × A4 × A5 × A6))) (hx : String → Option ρ) (k : A1 → A2 → A3 → A4 → A5 → A6 → Option ρ) : Option ρ := match x with
  | none => none
  | some (.inl E) => hx E
  | some (.inr q) => k q.1 q.2.1 q.2.2.1 q.2.2.2.1 q.2.2.2.2.1 q.2.2.2.2.2
theorem bh6_r {A1 A2 A3 A4 A5 A6 ρ : Type} {x : Option (String ⊕ (A1 × A2 × A3 × A4 × A5 × A6))} {hx : String → Option ρ} {k : A1 → A2 → A3 → A4 → A5 → A6 → Option ρ} {r : ρ} (h : bh6 x hx k = some r) : ∃ Rr : String ⊕ (A1 × A2 × A3 × A4 × A5 × A6), x = some Rr ∧ (∀ E, Rr = .inl E → hx E = some r) ∧ (∀ (x1 : A1) (x2 : A2) (x3 : A3) (x4 : A4) (x5 : A5) (x6 : A6), Rr = .inr (x1, x2, x3, x4, x5, x6) → k x1 x2 x3 x4 x5 x6 = some r) := by
  cases x with
  | none => cases h
  | some R =>
    refine ⟨R, rfl, fun E hE => ?_, fun x1 x2 x3 x4 x5 x6 hu => ?_⟩
    · subst hE; exact h
    · subst hu; exact h
def bh7 {A1 A2 A3 A4 A5 A6 A7 ρ : Type} (x : Option (String ⊕ (A1 × A2 × A3 × A4 × A5 × A6 × A7))) (hx : String → Option ρ) (k : A1 → A2 → A3 → A4 → A5 → A6 → A7 → Option ρ) : Option ρ := match x with
  | none => none
  | some (.inl E) => hx E
  | some (.inr q) => k q.1 q.2.1 q.2.2.1 q.2.2.2.1 q.2.2.2.2.1 q.2.2.2.2.2.1 q.2.2.2.2.2.2
theorem bh7_r {A1 A2 A3 A4 A5 A6 A7 ρ : Type} {x : Option (String ⊕ (A1 × A2 × A3 × A4 × A5 × A6 × A7))} {hx : String → Option ρ} {k : A1 → A2 → A3 → A4 → A5 → A6 → A7 → Option ρ} {r : ρ} (h : bh7 x hx k = some r) : ∃ Rr : String ⊕ (A1 × A2 × A3 × A4 × A5 × A6 × A7), x = some Rr ∧ (∀ E, Rr = .inl E → hx E = some r) ∧ (∀ (x1 : A1) (x2 : A2) (x3 : A3) (x4 : A4) (x5 : A5) (x6 : A6) (x7 : A7), Rr = .inr (x1, x2, x3, x4, x5, x6, x7) → k x1 x2 x3 x4 x5 x6 x7 = some r) := by
  cases x with
  | none => cases h
  | some R =>
    refine ⟨R, rfl, fun E hE => ?_, fun x1 x2 x3 x4 x5 x6 x7 hu => ?_⟩
    · subst hE; exact h
    · subst hu; exact h
def bh8 {A1 A2 A3 A4 A5 A6 A7 A8 ρ : Type} (x : Option (String ⊕ (A1 × A2 × A3 × A4 × A5 × A6 × A7 × A8))) (hx : String → Option ρ) (k : A1 → A2 → A3 → A4 → A5 → A6 → A7 → A8 → Option ρ) : Option ρ := match x with
  | none => none
  | some (.inl E) => hx E
  | some (.inr q) => k q.1 q.2.1 q.2.2.1 q.2.2.2.1 q.2.2.2.2.1 q.2.2.2.2.2.1 q.2.2.2.2.2.2.1 q.2.2.2.2.2.2.2
theorem bh8_r {A1 A2 A3 A4 A5 A6 A7 A8 ρ : Type} {x : Option (String ⊕ (A1 × A2 × A3 × A4 × A5 × A6 × A7 × A8))} {hx : String → Option ρ} {k : A1 → A2 → A3 → A4 → A5 → A6 → A7 → A8 → Option ρ} {r : ρ} (h : bh8 x hx k = some r) : ∃ Rr : String ⊕ (A1 × A2 × A3 × A4 × A5 × A6 × A7 × A8), x = some Rr ∧ (∀ E, Rr = .inl E → hx E = some r) ∧ (∀ (x1 : A1) (x2 : A2) (x3 : A3) (x4 : A4) (x5 : A5) (x6 : A6) (x7 : A7) (x8 : A8), Rr = .inr (x1, x2, x3, x4, x5, x6, x7, x8) → k x1 x2 x3 x4 x5 x6 x7 x8 = some r) := by
  cases x with
  | none => cases h
  | some R =>
    refine ⟨R, rfl, fun E hE => ?_, fun x1 x2 x3 x4 x5 x6 x7 x8 hu => ?_⟩
    · subst hE; exact h
    · subst hu; exact h
def bh9 {A1 A2 A3 A4 A5 A6 A7 A8 A9 ρ : Type} (x : Option (String ⊕ (A1 × A2 × A3 × A4 × A5 × A6 × A7 × A8 × A9))) (hx : String → Option ρ) (k : A1 → A2 → A3 → A4 → A5 → A6 → A7 → A8 → A9 → Option ρ) : Option ρ := match x with
  | none => none
  | some (.inl E) => hx E
  | some (.inr q) => k q.1 q.2.1 q.2.2.1 q.2.2.2.1 q.2.2.2.2.1 q.2.2.2.2.2.1 q.2.2.2.2.2.2.1 q.2.2.2.2.2.2.2.1 q.2.2.2.2.2.2.2.2
theorem bh9_r {A1 A2 A3 A4 A5 A6 A7 A8 A9 ρ : Type} {x : Option (String ⊕ (A1 × A2 × A3 × A4 × A5 × A6 × A7 × A8 × A9))} {hx : String → Option ρ} {k : A1 → A2 → A3 → A4 → A5 → A6 → A7 → A8 → A9 → Option ρ} {r : ρ} (h : bh9 x hx k = some r) : ∃ Rr : String ⊕ (A1 × A2 × A3 × A4 × A5 × A6 × A7 × A8 × A9), x = some Rr ∧ (∀ E, Rr = .inl E → hx E = some r) ∧ (∀ (x1 : A1) (x2 : A2) (x3 : A3) (x4 : A4) (x5 : A5) (x6 : A6) (x7 : A7) (x8 : A8) (x9 : A9), Rr = .inr (x1, x2, x3, x4, x5, x6, x7, x8, x9) → k x1 x2 x3 x4 x5 x6 x7 x8 x9 = some r) := by
  cases x with
  | none => cases h
  | some R =>
    refine ⟨R, rfl, fun E hE => ?_, fun x1 x2 x3 x4 x5 x6 x7 x8 x9 hu => ?_⟩
    · subst hE; exact h
    · subst hu; exact h
def bh10 {A1 A2 A3 A4 A5 A6 A7 A8 A9 A10 ρ : Type} (x : Option (String ⊕ (A1 × A2 × A3 × A4 × A5 × A6 × A7 × A8 × A9 × A10))) (hx : String → Option ρ) (k : A1 → A2 → A3 → A4 → A5 → A6 → A7 → A8 → A9 → A10 → Option ρ) : Option ρ := match x with
  | none => none
  | some (.inl E) => hx E
  | some (.inr q) => k q.1 q.2.1 q.2.2.1 q.2.2.2.1 q.2.2.2.2.1 q.2.2.2.2.2.1 q.2.2.2.2.2.2.1 q.2.2.2.2.2.2.2.1 q.2.2.2.2.2.2.2.2.1 q.2.2.2.2.2.2.2.2.2
theorem bh10_r {A1 A2 A3 A4 A5 A6 A7 A8 A9 A10 ρ : Type} {x : Option (String ⊕ (A1 × A2 × A3 × A4 × A5 × A6 × A7 × A8 × A9 × A10))} {hx : String → Option ρ} {k : A1 → A2 → A3 → A4 → A5 → A6 → A7 → A8 → A9 → A10 → Option ρ} {r : ρ} (h : bh10 x hx k = some r) : ∃ Rr : String ⊕ (A1 × A2 × A3 × A4 × A5 × A6 × A7 × A8 × A9 × A10), x = some Rr ∧ (∀ E, Rr = .inl E → hx E = some r) ∧ (∀ (x1 : A1) (x2 : A2) (x3 : A3) (x4 : A4) (x5 : A5) (x6 : A6) (x7 : A7) (x8 : A8) (x9 : A9) (x10 : A10), Rr = .inr (x1, x2, x3, x4, x5, x6, x7, x8, x9, x10) → k x1 x2 x3 x4 x5 x6 x7 x8 x9 x10 = some r) := by
  cases x with
  | none => cases h
  | some R =>
    refine ⟨R, rfl, fun E hE => ?_, fun x1 x2 x3 x4 x5 x6 x7 x8 x9 x10 hu => ?_⟩
    · subst hE; exact h
    · subst hu; exact h
def bh11 {A1 A2 A3 A4 A5 A6 A7 A8 A9 A10 A11 ρ : Type} (x : Option (String ⊕ (A1 × A2 × A3 × A4 × A5 × A6 × A7 × A8 × A9 × A10 × A11))) (hx : String → Option ρ) (k : A1 → A2 → A3 → A4 → A5 → A6 → A7 → A8 → A9 → A10 → A11 → Option ρ) : Option ρ := match x with
  | none => none
  | some (.inl E) => hx E
  | some (.inr q) => k q.1 q.2.1 q.2.2.1 q.2.2.2.1 q.2.2.2.2.1 q.2.2.2.2.2.1 q.2.2.2.2.2.2.1 q.2.2.2.2.2.2.2.1 q.2.2.2.2.2.2.2.2.1 q.2.2.2.2.2.2.2.2.2.1 q.2.2.2.2.2.2.2.2.2.2
theorem bh11_r {A1 A2 A3 A4 A5 A6 A7 A8 A9 A10 A11 ρ : Type} {x : Option (String ⊕ (A1 × A2 × A3 × A4 × A5 × A6 × A7 × A8 × A9 × A10 × A11))} {hx : String → Option ρ} {k : A1 → A2 → A3 → A4 → A5 → A6 → A7 → A8 → A9 → A10 → A11 → Option ρ} {r : ρ} (h : bh11 x hx k = some r) : ∃ Rr : String ⊕ (A1 × A2 × A3 × A4 × A5 × A6 × A7 × A8 × A9 × A10 × A11), x = some Rr ∧ (∀ E, Rr = .inl E → hx E = some r) ∧ (∀ (x1 : A1) (x2 : A2) (x3 : A3) (x4 : A4) (x5 : A5) (x6 : A6) (x7 : A7) (x8 : A8) (x9 : A9) (x10 : A10) (x11 : A11), Rr = .inr (x1, x2, x3, x4, x5, x6, x7, x8, x9, x10, x11) → k x1 x2 x3 x4 x5 x6 x7 x8 x9 x10 x11 = some r) := by
  cases x with
  | none => cases h
  | some R =>
    refine ⟨R, rfl, fun E hE => ?_, fun x1 x2 x3 x4 x5 x6 x7 x8 x9 x10 x11 hu => ?_⟩
    · subst hE; exact h
    · subst hu; exact h
def bh12 {A1 A2 A3 A4 A5 A6 A7 A8 A9 A10 A11 A12 ρ : Type} (x : Option (String ⊕ (A1 × A2 × A3 × A4 × A5 × A6 × A7 × A8 × A9 × A10 × A11 × A12))) (hx : String → Option ρ) (k : A1 → A2 → A3 → A4 → A5 → A6 → A7 → A8 → A9 → A10 → A11 → A12 → Option ρ) : Option ρ := match x with
  | none => none
  | some (.inl E) => hx E
  | some (.inr q) => k q.1 q.2.1 q.2.2.1 q.2.2.2.1 q.2.2.2.2.1 q.2.2.2.2.2.1 q.2.2.2.2.2.2.1 q.2.2.2.2.2.2.2.1 q.2.2.2.2.2.2.2.2.1 q.2.2.2.2.2.2.2.2.2.1 q.2.2.2.2.2.2.2.2.2.2.1 q.2.2.2.2.2.2.2.2.2.2.2
theorem bh12_r {A1 A2 A3 A4 A5 A6 A7 A8 A9 A10 A11 A12 ρ : Type} {x : Option (String ⊕ (A1 × A2 × A3 × A4 × A5 × A6 × A7 × A8 × A9 × A10 × A11 × A12))} {hx : String → Option ρ} {k : A1 → A2 → A3 → A4 → A5 → A6 → A7 → A8 → A9 → A10 → A11 → A12 → Option ρ} {r : ρ} (h : bh12 x hx k = some r) : ∃ Rr : String ⊕ (A1 × A2 × A3 × A4 × A5 × A6 × A7 × A8 × A9 × A10 × A11 × A12), x = some Rr ∧ (∀ E, Rr = .inl E → hx E = some r) ∧ (∀ (x1 : A1) (x2 : A2) (x3 : A3) (x4 : A4) (x5 : A5) (x6 : A6) (x7 : A7) (x8 : A8) (x9 : A9) (x10 : A10) (x11 : A11) (x12 : A12), Rr = .inr (x1, x2, x3, x4, x5, x6, x7, x8, x9, x10, x11, x12) → k x1 x2 x3 x4 x5 x6 x7 x8 x9 x10 x11 x12 = some r) := by
  cases x with
  | none => cases h
  | some R =>
    refine ⟨R, rfl, fun E hE => ?_, fun x1 x2 x3 x4 x5 x6 x7 x8 x9 x10 x11 x12 hu => ?_⟩
    · subst hE; exact h
    · subst hu; exact h
def bh13 {A1 A2 A3 A4 A5 A6 A7 A8 A9 A10 A11 A12 A13 ρ : Type} (x : Option (String ⊕ (A1 × A2 × A3 × A4 × A5 × A6 × A7 × A8 × A9 × A10 × A11 × A12 × A13))) (hx : String → Option ρ) (k : A1 → A2 → A3 → A4 → A5 → A6 → A7 → A8 → A9 → A10 → A11 → A12 → A13 → Option ρ) : Option ρ := match x with
  | none => none
  | some (.inl E) => hx E
  | some (.inr q) => k q.1 q.2.1 q.2.2.1 q.2.2.2.1 q.2.2.2.2.1 q.2.2.2.2.2.1 q.2.2.2.2.2.2.1 q.2.2.2.2.2.2.2.1 q.2.2.2.2.2.2.2.2.1 q.2.2.2.2.2.2.2.2.2.1 q.2.2.2.2.2.2.2.2.2.2.1 q.2.2.2.2.2.2.2.2.2.2.2.1 q.2.2.2.2.2.2.2.2.2.2.2.2
theorem bh13_r {A1 A2 A3 A4 A5 A6 A7 A8 A9 A10 A11 A12 A13 ρ : Type} {x : Option (String ⊕ (A1 × A2 × A3 × A4 × A5 × A6 × A7 × A8 × A9 × A10 × A11 × A12 × A13))} {hx : String → Option ρ} {k : A1 → A2 → A3 → A4 → A5 → A6 → A7 → A8 → A9 → A10 → A11 → A12 → A13 → Option ρ} {r : ρ} (h : bh13 x hx k = some r) : ∃ Rr : String ⊕ (A1 × A2 × A3 × A4 × A5 × A6 × A7 × A8 × A9 × A10 × A11 × A12 × A13), x = some Rr ∧ (∀ E, Rr = .inl E → hx E = some r) ∧ (∀ (x1 : A1) (x2 : A2) (x3 : A3) (x4 : A4) (x5 : A5) (x6 : A6) (x7 : A7) (x8 : A8) (x9 : A9) (x10 : A10) (x11 : A11) (x12 : A12) (x13 : A13), Rr = .inr (x1, x2, x3, x4, x5, x6, x7, x8, x9, x10, x11, x12, x13) → k x1 x2 x3 x4 x5 x6 x7 x8 x9 x10 x11 x12 x13 = some r) := by
  cases x with
  | none => cases h
  | some R =>
    refine ⟨R, rfl, fun E hE => ?_, fun x1 x2 x3 x4 x5 x6 x7 x8 x9 x10 x11 x12 x13 hu => ?_⟩
    · subst hE; exact h
    · subst hu; exact h
def bh14 {A1 A2 A3 A4 A5 A6 A7 A8 A9 A10 A11 A12 A13 A14 ρ : Type} (x : Option (String ⊕ (A1 × A2 × A3 × A4 × A5 × A6 × A7 × A8 × A9 × A10 × A11 × A12 × A13 × A14))) (hx : String → Option ρ) (k : A1 → A2 → A3 → A4 → A5 → A6 → A7 → A8 → A9 → A10 → A11 → A12 → A13 → A14 → Option ρ) : Option ρ := match x with
  | none => none
  | some (.inl E) => hx E
  | some (.inr q) => k q.1 q.2.1 q.2.2.1 q.2.2.2.1 q.2.2.2.2.1 q.2.2.2.2.2.1 q.2.2.2.2.2.2.1 q.2.2.2.2.2.2.2.1 q.2.2.2.2.2.2.2.2.1 q.2.2.2.2.2.2.2.2.2.1 q.2.2.2.2.2.2.2.2.2.2.1 q.2.2.2.2.2.2.2.2.2.2.2.1 q.2.2.2.2.2.2.2.2.2.2.2.2.1 q.2.2.2.2.2.2.2.2.2.2.2.2.2
theorem bh14_r {A1 A2 A3 A4 A5 A6 A7 A8 A9 A10 A11 A12 A13 A14 ρ : Type} {x : Option (String ⊕ (A1 × A2 × A3 × A4 × A5 × A6 × A7 × A8 × A9 × A10 × A11 × A12 × A13 × A14))} {hx : String → Option ρ} {k : A1 → A2 → A3 → A4 → A5 → A6 → A7 → A8 → A9 → A10 → A11 → A12 → A13 → A14 → Option ρ} {r : ρ} (h : bh14 x hx k = some r) : ∃ Rr : String ⊕ (A1 × A2 × A3 × A4 × A5 × A6 × A7 × A8 × A9 × A10 × A11 × A12 × A13 × A14), x = some Rr ∧ (∀ E, Rr = .inl E → hx E = some r) ∧ (∀ (x1 : A1) (x2 : A2) (x3 : A3) (x4 : A4) (x5 : A5) (x6 : A6) (x7 : A7) (x8 : A8) (x9 : A9) (x10 : A10) (x11 : A11) (x12 : A12) (x13 : A13) (x14 : A14), Rr = .inr (x1, x2, x3, x4, x5, x6, x7, x8, x9, x10, x11, x12, x13, x14) → k x1 x2 x3 x4 x5 x6 x7 x8 x9 x10 x11 x12 x13 x14 = some r) := by
  cases x with
  | none => cases h
  | some R =>
    refine ⟨R, rfl, fun E hE => ?_, fun x1 x2 x3 x4 x5 x6 x7 x8 x9 x10 x11 x12 x13 x14 hu => ?_⟩
    · subst hE; exact h
    · subst hu; exact h
def bh15 {A1 A2 A3 A4 A5 A6 A7 A8 A9 A10 A11 A12 A13 A14 A15 ρ : Type} (x : Option (String ⊕ (A1 × A2 × A3 × A4 × A5 × A6 × A7 × A8 × A9 × A10 × A11 × A12 × A13 × A14 × A15))) (hx : String → Option ρ) (k : A1 → A2 → A3 → A4 → A5 → A6 → A7 → A8 → A9 → A10 → A11 → A12 → A13 → A14 → A15 → Option ρ) : Option ρ := match x with
  | none => none
  | some (.inl E) => hx E
  | some (.inr q) => k q.1 q.2.1 q.2.2.1 q.2.2.2.1 q.2.2.2.2.1 q.2.2.2.2.2.1 q.2.2.2.2.2.2.1 q.2.2.2.2.2.2.2.1 q.2.2.2.2.2.2.2.2.1 q.2.2.2.2.2.2.2.2.2.1 q.2.2.2.2.2.2.2.2.2.2.1 q.2.2.2.2.2.2.2.2.2.2.2.1 q.2.2.2.2.2.2.2.2.2.2.2.2.1 q.2.2.2.2.2.2.2.2.2.2.2.2.2.1 q.2.2.2.2.2.2.2.2.2.2.2.2.2.2
theorem bh15_r {A1 A2 A3 A4 A5 A6 A7 A8 A9 A10 A11 A12 A13 A14 A15 ρ : Type} {x : Option (String ⊕ (A1 × A2 × A3 × A4 × A5 × A6 × A7 × A8 × A9 × A10 × A11 × A12 × A13 × A14 × A15))} {hx : String → Option ρ} {k : A1 → A2 → A3 → A4 → A5 → A6 → A7 → A8 → A9 → A10 → A11 → A12 → A13 → A14 → A15 → Option ρ} {r : ρ} (h : bh15 x hx k = some r) : ∃ Rr : String ⊕ (A1 × A2 × A3 × A4 × A5 × A6 × A7 × A8 × A9 × A10 × A11 × A12 × A13 × A14 × A15), x = some Rr ∧ (∀ E, Rr = .inl E → hx E = some r) ∧ (∀ (x1 : A1) (x2 : A2) (x3 : A3) (x4 : A4) (x5 : A5) (x6 : A6) (x7 : A7) (x8 : A8) (x9 : A9) (x10 : A10) (x11 : A11) (x12 : A12) (x13 : A13) (x14 : A14) (x15 : A15), Rr = .inr (x1, x2, x3, x4, x5, x6, x7, x8, x9, x10, x11, x12, x13, x14, x15) → k x1 x2 x3 x4 x5 x6 x7 x8 x9 x10 x11 x12 x13 x14 x15 = some r) := by
  cases x with
  | none => cases h
  | some R =>
    refine ⟨R, rfl, fun E hE => ?_, fun x1 x2 x3 x4 x5 x6 x7 x8 x9 x10 x11 x12 x13 x14 x15 hu => ?_⟩
    · subst hE; exact h
    · subst hu; exact h
def bh16 {A1 A2 A3 A4 A5 A6 A7 A8 A9 A10 A11 A12 A13 A14 A15 A16 ρ : Type} (x : Option (String ⊕ (A1 × A2 × A3 × A4 × A5 × A6 × A7 × A8 × A9 × A10 × A11 × A12 × A13 × A14 × A15 × A16))) (hx : String → Option ρ) (k : A1 → A2 → A3 → A4 → A5 → A6 → A7 → A8 → A9 → A10 → A11 → A12 → A13 → A14 → A15 → A16 → Option ρ) : Option ρ := match x with
  | none => none
  | some (.inl E) => hx E
  | some (.inr q) => k q.1 q.2.1 q.2.2.1 q.2.2.2.1 q.2.2.2.2.1 q.2.2.2.2.2.1 q.2.2.2.2.2.2.1 q.2.2.2.2.2.2.2.1 q.2.2.2.2.2.2.2.2.1 q.2.2.2.2.2.2.2.2.2.1 q.2.2.2.2.2.2.2.2.2.2.1 q.2.2.2.2.2.2.2.2.2.2.2.1 q.2.2.2.2.2.2.2.2.2.2.2.2.1 q.2.2.2.2.2.2.2.2.2.2.2.2.2.1 q.2.2.2.2.2.2.2.2.2.2.2.2.2.2.1 q.2.2.2.2.2.2.2.2.2.2.2.2.2.2.2
theorem bh16_r {A1 A2 A3 A4 A5 A6 A7 A8 A9 A10 A11 A12 A13 A14 A15 A16 ρ : Type} {x : Option (String ⊕ (A1 × A2 × A3 × A4 × A5 × A6 × A7 × A8 × A9 × A10 × A11 × A12 × A13 × A14 × A15 × A16))} {hx : String → Option ρ} {k : A1 → A2 → A3 → A4 → A5 → A6 → A7 → A8 → A9 → A10 → A11 → A12 → A13 → A14 → A15 → A16 → Option ρ} {r : ρ} (h : bh16 x hx k = some r) : ∃ Rr : String ⊕ (A1 × A2 × A3 × A4 × A5 × A6 × A7 × A8 × A9 × A10 × A11 × A12 × A13 × A14 × A15 × A16), x = some Rr ∧ (∀ E, Rr = .inl E → hx E = some r) ∧ (∀ (x1 : A1) (x2 : A2) (x3 : A3) (x4 : A4) (x5 : A5) (x6 : A6) (x7 : A7) (x8 : A8) (x9 : A9) (x10 : A10) (x11 : A11) (x12 : A12) (x13 : A13) (x14 : A14) (x15 : A15) (x16 : A16), Rr = .inr (x1, x2, x3, x4, x5, x6, x7, x8, x9, x10, x11, x12, x13, x14, x15, x16) → k x1 x2 x3 x4 x5 x6 x7 x8 x9 x10 x11 x12 x13 x14 x15 x16 = some r) := by
  cases x with
  | none => cases h
  | some R =>
    refine ⟨R, rfl, fun E hE => ?_, fun x1 x2 x3 x4 x5 x6 x7 x8 x9 x10 x11 x12 x13 x14 x15 x16 hu => ?_⟩
    · subst hE; exact h
    · subst hu; exact h
def bh17 {A1 A2 A3 A4 A5 A6 A7 A8 A9 A10 A11 A12 A13 A14 A15 A16 A17 ρ : Type} (x : Option (String ⊕ (A1 × A2 × A3 × A4 × A5 × A6 × A7 × A8 × A9 × A10 × A11 × A12 × A13 × A14 × A15 × A16 × A17))) (hx : String → Option ρ) (k : A1 → A2 → A3 → A4 → A5 → A6 → A7 → A8 → A9 → A10 → A11 → A12 → A13 → A14 → A15 → A16 → A17 → Option ρ) : Option ρ := match x with
  | none => none
  | some (.inl E) => hx E
  | some (.inr q) => k q.1 q.2.1 q.2.2.1 q.2.2.2.1 q.2.2.2.2.1 q.2.2.2.2.2.1 q.2.2.2.2.2.2.1 q.2.2.2.2.2.2.2.1 q.2.2.2.2.2.2.2.2.1 q.2.2.2.2.2.2.2.2.2.1 q.2.2.2.2.2.2.2.2.2.2.1 q.2.2.2.2.2.2.2.2.2.2.2.1 q.2.2.2.2.2.2.2.2.2.2.2.2.1 q.2.2.2.2.2.2.2.2.2.2.2.2.2.1 q.2.2.2.2.2.2.2.2.2.2.2.2.2.2.1 q.2.2.2.2.2.2.2.2.2.2.2.2.2.2.2.1 q.2.2.2.2.2.2.2.2.2.2.2.2.2.2.2.2
theorem bh17_r {A1 A2 A3 A4 A5 A6 A7 A8 A9 A10 A11 A12 A13 A14 A15 A16 A17 ρ : Type} {x : Option (String ⊕ (A1 × A2 × A3 × A4 × A5 × A6 × A7 × A8 × A9 × A10 × A11 × A12 × A13 × A14 × A15 × A16 × A17))} {hx : String → Option ρ} {k : A1 → A2 → A3 → A4 → A5 → A6 → A7 → A8 → A9 → A10 → A11 → A12 → A13 → A14 → A15 → A16 → A17 → Option ρ} {r : ρ} (h : bh17 x hx k = some r) : ∃ Rr : String ⊕ (A1 × A2 × A3 × A4 × A5 × A6 × A7 × A8 × A9 × A10 × A11 × A12 × A13 × A14 × A15 × A16 × A17), x = some Rr ∧ (∀ E, Rr = .inl E → hx E = some r) ∧ (∀ (x1 : A1) (x2 : A2) (x3 : A3) (x4 : A4) (x5 : A5) (x6 : A6) (x7 : A7) (x8 : A8) (x9 : A9) (x10 : A10) (x11 : A11) (x12 : A12) (x13 : A13) (x14 : A14) (x15 : A15) (x16 : A16) (x17 : A17), Rr = .inr (x1, x2, x3, x4, x5, x6, x7, x8, x9, x10, x11, x12, x13, x14, x15, x16, x17) → k x1 x2 x3 x4 x5 x6 x7 x8 x9 x10 x11 x12 x13 x14 x15 x16 x17 = some r) := by
  cases x with
  | none => cases h
  | some R =>
    refine ⟨R, rfl, fun E hE => ?_, fun x1 x2 x3 x4 x5 x6 x7 x8 x9 x10 x11 x12 x13 x14 x15 x16 x17 hu => ?_⟩
    · subst hE; exact h
    · subst hu; exact h
def bh18 {A1 A2 A3 A4 A5 A6 A7 A8 A9 A10 A11 A12 A13 A14 A15 A16 A17 A18 ρ : Type} (x : Option (String ⊕ (A1 × A2 × A3 × A4 × A5 × A6 × A7 × A8 × A9 × A10 × A11 × A12 × A13 × A14 × A15 × A16 × A17 × A18))) (hx : String → Option ρ) (k : A1 → A2 → A3 → A4 → A5 → A6 → A7 → A8 → A9 → A10 → A11 → A12 → A13 → A14 → A15 → A16 → A17 → A18 → Option ρ) : Option ρ := match x with
  | none => none
  | some (.inl E) => hx E
  | some (.inr q) => k q.1 q.2.1 q.2.2.1 q.2.2.2.1 q.2.2.2.2.1 q.2.2.2.2.2.1 q.2.2.2.2.2.2.1 q.2.2.2.2.2.2.2.1 q.2.2.2.2.2.2.2.2.1 q.2.2.2.2.2.2.2.2.2.1 q.2.2.2.2.2.2.2.2.2.2.1 q.2.2.2.2.2.2.2.2.2.2.2.1 q.2.2.2.2.2.2.2.2.2.2.2.2.1 q.2.2.2.2.2.2.2.2.2.2.2.2.2.1 q.2.2.2.2.2.2.2.2.2.2.2.2.2.2.1 q.2.2.2.2.2.2.2.2.2.2.2.2.2.2.2.1 q.2.2.2.2.2.2.2.2.2.2.2.2.2.2.2.2.1 q.2.2.2.2.2.2.2.2.2.2.2.2.2.2.2.2.2
theorem bh18_r {A1 A2 A3 A4 A5 A6 A7 A8 A9 A10 A11 A12 A13 A14 A15 A16 A17 A18 ρ : Type} {x : Option (String ⊕ (A1 × A2 × A3 × A4 × A5 × A6 × A7 × A8 × A9 × A10 × A11 × A12 × A13 × A14 × A15 × A16 × A17 × A18))} {hx : String → Option ρ} {k : A1 → A2 → A3 → A4 → A5 → A6 → A7 → A8 → A9 → A10 → A11 → A12 → A13 → A14 → A15 → A16 → A17 → A18 → Option ρ} {r : ρ} (h : bh18 x hx k = some r) : ∃ Rr : String ⊕ (A1 × A2 × A3 × A4 × A5 × A6 × A7 × A8 × A9 × A10 × A11 × A12 × A13 × A14 × A15 × A16 × A17 × A18), x = some Rr ∧ (∀ E, Rr = .inl E → hx E = some r) ∧ (∀ (x1 : A1) (x2 : A2) (x3 : A3) (x4 : A4) (x5 : A5) (x6 : A6) (x7 : A7) (x8 : A8) (x9 : A9) (x10 : A10) (x11 : A11) (x12 : A12) (x13 : A13) (x14 : A14) (x15 : A15) (x16 : A16) (x17 : A17) (x18 : A18), Rr = .inr (x1, x2, x3, x4, x5, x6, x7, x8, x9, x10, x11, x12, x13, x14, x15, x16, x17, x18) → k x1 x2 x3 x4 x5 x6 x7 x8 x9 x10 x11 x12 x13 x14 x15 x16 x17 x18 = some r) := by
  cases x with
  | none => cases h
  | some R =>
    refine ⟨R, rfl, fun E hE => ?_, fun x1 x2 x3 x4 x5 x6 x7 x8 x9 x10 x11 x12 x13 x14 x15 x16 x17 x18 hu => ?_⟩
    · subst hE; exact h
    · subst hu; exact h
def bh19 {A1 A2 A3 A4 A5 A6 A7 A8 A9 A10 A11 A12 A13 A14 A15 A16 A17 A18 A19 ρ : Type} (x : Option (String ⊕ (A1 × A2 × A3 × A4 × A5 × A6 × A7 × A8 × A9 × A10 × A11 × A12 × A13 × A14 × A15 × A16 × A17 × A18 × A19))) (hx : String → Option ρ) (k : A1 → A2 → A3 → A4 → A5 → A6 → A7 → A8 → A9 → A10 → A11 → A12 → A13 → A14 → A15 → A16 → A17 → A18 → A19 → Option ρ) : Option ρ := match x with
  | none => none
  | some (.inl E) => hx E
  | some (.inr q) => k q.1 q.2.1 q.2.2.1 q.2.2.2.1 q.2.2.2.2.1 q.2.2.2.2.2.1 q.2.2.2.2.2.2.1 q.2.2.2.2.2.2.2.1 q.2.2.2.2.2.2.2.2.1 q.2.2.2.2.2.2.2.2.2.1 q.2.2.2.2.2.2.2.2.2.2.1 q.2.2.2.2.2.2.2.2.2.2.2.1 q.2.2.2.2.2.2.2.2.2.2.2.2.1 q.2.2.2.2.2.2.2.2.2.2.2.2.2.1 q.2.2.2.2.2.2.2.2.2.2.2.2.2.2.1 q.2.2.2.2.2.2.2.2.2.2.2.2.2.2.2.1 q.2.2.2.2.2.2.2.2.2.2.2.2.2.2.2.2.1 q.2.2.2.2.2.2.2.2.2.2.2.2.2.2.2.2.2.1 q.2.2.2.2.2.2.2.2.2.2.2.2.2.2.2.2.2.2
theorem bh19_r {A1 A2 A3 A4 A5 A6 A7 A8 A9 A10 A11 A12 A13 A14 A15 A16 A17 A18 A19 ρ : Type} {x : Option (String ⊕ (A1 × A2 × A3 × A4 × A5 × A6 × A7 × A8 × A9 × A10 × A11 × A12 × A13 × A14 × A15 × A16 × A17 × A18 × A19))} {hx : String → Option ρ} {k : A1 → A2 → A3 → A4 → A5 → A6 → A7 → A8 → A9 → A10 → A11 → A12 → A13 → A14 → A15 → A16 → A17 → A18 → A19 → Option ρ} {r : ρ} (h : bh19 x hx k = some r) : ∃ Rr : String ⊕ (A1 × A2 × A3 × A4 × A5 × A6 × A7 × A8 × A9 × A10 × A11 × A12 × A13 × A14 × A15 × A16 × A17 × A18 × A19), x = some Rr ∧ (∀ E, Rr = .inl E → hx E = some r) ∧ (∀ (x1 : A1) (x2 : A2) (x3 : A3) (x4 : A4) (x5 : A5) (x6 : A6) (x7 : A7) (x8 : A8) (x9 : A9) (x10 : A10) (x11 : A11) (x12 : A12) (x13 : A13) (x14 : A14) (x15 : A15) (x16 : A16) (x17 : A17) (x18 : A18) (x19 : A19), Rr = .inr (x1, x2, x3, x4, x5, x6, x7, x8, x9, x10, x11, x12, x13, x14, x15, x16, x17, x18, x19) → k x1 x2 x3 x4 x5 x6 x7 x8 x9 x10 x11 x12 x13 x14 x15 x16 x17 x18 x19 = some r) := by
  cases x with
  | none => cases h
  | some R =>
    refine ⟨R, rfl, fun E hE => ?_, fun x1 x2 x3 x4 x5 x6 x7 x8 x9 x10 x11 x12 x13 x14 x15 x16 x17 x18 x19 hu => ?_⟩
    · subst hE; exact h
    · subst hu; exact h
