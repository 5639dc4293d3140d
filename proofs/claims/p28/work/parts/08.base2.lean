/-! methods that may throw: the program's result R says whether, and what -/
def sKl : List (Nat × String) := [(54, "there are 16 nodes"), (68, "both nodes are the same"), (74, "there are 24 switches"), (87, "the log has 200 acts"), (101, "the log is empty"), (123, "no such act in the log"), (129, "the sequence has 30 acts"), (144, "acts is not 1 to 30"), (151, "the log would have more than 200 acts"), (156, "no node, or one that there is not"), (162, "a node is not earthed, live, or held already"), (167, "10 permits were given"), (172, "no such permit was given"), (177, "the permit was handed back"), (191, "no such switch"), (223, "no way leads to a source that is on"), (229, "no such node"), (231, "kind is not 0 to 5"), (236, "no such switch or node")]
/-- what a throw asks of the tables and isn't in the lists of words -/
def nW : List Cond := [.declares (Bundle.initS "java/lang/RuntimeException"), .declares (Bundle.initS "java/lang/Exception"), .declares (Bundle.initS "java/lang/Throwable"), .castable "java/lang/IllegalStateException" "java/lang/IllegalStateException", .castable "java/lang/IllegalArgumentException" "java/lang/IllegalArgumentException", .castable "java/lang/IndexOutOfBoundsException" "java/lang/IndexOutOfBoundsException", .castable "java/util/NoSuchElementException" "java/util/NoSuchElementException"]
theorem nW_on : ∀ w ∈ nW, w.onTables = true := by decide +kernel
theorem zz_warmC {a b : String} {s U : State} (hW : s.WarmedH U.vm) (hZ : va_Nw (.castable a b) s) : va_Nw (.castable a b) U := va_tabs rfl (rfl : (s.setVm U.vm).vm = U.vm) (by rw [Cond.castable_setVm hW.alike]; exact hZ)
def nWk : Cond → Bool
  | .declares _ => true
  | .castable .. => true
  | _ => false
theorem nW_k : ∀ w ∈ nW, nWk w = true := by decide +kernel
theorem nW_warm {w : Cond} (hk : nWk w = true) {s U : State} (hW : s.WarmedH U.vm) (h : va_Nw w s) : va_Nw w U := by
  cases w with
  | declares x => exact va_Nw.warmD hW h
  | castable a b => exact zz_warmC hW h
  | _ => cases hk
/-- the texts that the class loads, and those words -/
def KS (U : State) : Prop := (∀ q ∈ sKl, ∃ sa : Nat, vk_R RX4 q.1 q.2 sa U) ∧ ∀ w ∈ nW, va_Nw w U
theorem KS.warm {s U : State} (hW : s.WarmedH U.vm) (h : KS s) : KS U := ⟨fun q hq => by
  obtain ⟨sa, h1⟩ := h.1 q hq
  exact ⟨sa, vk_R.warm hW h1⟩, fun w hw => nW_warm (nW_k w hw) hW (h.2 w hw)⟩
theorem KS.calling {U : State} {g : JFrame} {mk : MethodId} {a : Array Value} (h : KS U) : KS (U.calling g mk a) := ⟨fun q hq => by
  obtain ⟨sa, h1⟩ := h.1 q hq
  exact ⟨sa, vk_R.same (u := U) (U := U.calling g mk a) rfl h1⟩, fun w hw => va_Nw.same (u := U) (U := U.calling g mk a) (nW_on w hw) rfl (h.2 w hw)⟩
theorem KS.hat {args : Array Value} {s : State} {L : List Cond} (h : KS s) (h1 : ∀ w ∈ L.filter goodWord, w.before args s = true) (h2 : ∀ w ∈ L.filter (fun w => !goodWord w), w ∈ nW) : ∀ w ∈ L, w.before args s = true := vx_hat h1 h2 (fun w hw => va_Nw.use (nW_on w hw) (h.2 w hw))
/-- the two statics that a new throwable reads -/
def KZ (A : Nat → Prop) (U : State) (H : Heap) : Prop := vx_Zq Bundle.tN "UNASSIGNED_STACK" Bundle.steD A U H ∧ vx_Zq Bundle.tN "SUPPRESSED_SENTINEL" Bundle.listD A U H
theorem KZ.moved {A : Nat → Prop} {u U : State} {H : Heap} (hvm : u.vm.Alike U.vm) (h : KZ A u H) : KZ A U H := ⟨h.1.moved hvm, h.2.moved hvm⟩
theorem KZ.kept {A : Nat → Prop} {U : State} {H H1 : Heap} (h : KZ A U H) (hq : ∀ a : Nat, a < H.size → ¬ A a → H1[a]? = H[a]?) : KZ A U H1 := ⟨h.1.kept hq, h.2.kept hq⟩
theorem KZ.narrow {A B : Nat → Prop} {U : State} {H : Heap} (h : KZ A U H) (hAB : ∀ q, B q → A q) : KZ B U H := ⟨h.1.narrow hAB, h.2.narrow hAB⟩
def PT (D : va_G) (cI cZ cL : ClassId) (av : List Value) (ws : va_W) (sz : Nat) : Array Value → State → Prop := va_Pc av (fun U => U.heap.size = sz ∧ va_P D vwCl ws U.heap ∧ K0 D cI cZ cL U ∧ va_D (fun _ => True) ws ∧ KS U ∧ KZ (va_A ws sz) U U.heap)
theorem PT_blind {D : va_G} {cI cZ cL : ClassId} {av : List Value} {ws : va_W} {sz : Nat} : FrameBlind (PT D cI cZ cL av ws sz) := fun _ U g mk q => ⟨q.1, q.2.1, q.2.2.1, q.2.2.2.1.calling, q.2.2.2.2.1, q.2.2.2.2.2.1.calling, KZ.moved (u := U) (U := U.calling g mk _) (Vm.Alike.refl U.vm) q.2.2.2.2.2.2⟩
def QT {α : Type} (D : va_G) (rv : α → Option Value) (A : Nat → Prop) (w1 : α → va_W) (R : String ⊕ α) : Array Value → State → Outcome → State → Prop := fun _ st o t => ∃ u : α, R = .inr u ∧ o = .returned (rv u) ∧ va_P D vwCl (w1 u) t.heap ∧ va_D A (w1 u) ∧ va_F A st t
def XT {α : Type} (D : va_G) (A : Nat → Prop) (ws : va_W) (R : String ⊕ α) : String → State → State → Prop := fun E st t => R = .inl E ∧ va_P D vwCl ws t.heap ∧ va_D A ws ∧ va_F A st t
theorem zz_keep {D : va_G} {ws : va_W} {H H1 : Heap} (hP : va_P D vwCl ws H) (hq : ∀ q : Nat, q < H.size → H1[q]? = H[q]?) : va_P D vwCl ws H1 := fun k q hk => (hP k q hk).kept (hq _ (hP k q hk).lt)
theorem zz_XT {α : Type} {D : va_G} {A : Nat → Prop} {ws : va_W} {E : String} {s t : State} {H : Heap} {locs : List Loc} (hP : va_P D vwCl ws H) (hD : va_D A ws) (hS : va_S A s.heap H locs) (hz : H.size ≤ t.heap.size) (hq : ∀ q : Nat, q < H.size → t.heap[q]? = H[q]?) : XT (α := α) D A ws (.inl E) E s t :=
  ⟨rfl, zz_keep hP hq, hD, Nat.le_trans hS.1 hz, fun q h1 h2 => (hq q (Nat.lt_of_lt_of_le h1 hS.1)).trans (hS.2.1 q h1 h2)⟩
section ZX
variable {p : Program} {l : Launch} {e : Env} {R : Room} {s : State} {m : MethodId} {args : Array Value} {below : List Frame} {meth : Method} {c : Code} {H : Heap} {locs : List Loc} {cells slots : Nat} {Q : State → Prop}
variable {pc : Nat} {ls : Array Slot} {rest st0 : List Value} {a : Array Value} {mc ms : Nat} {α : Type}
variable {y : MethodName} {bytes cc : ByteArray} {maxL nL n index : Nat} {ret : Option FieldType} {ws : List Cond} {rm : Room} {Ts : List Cond} {own C : String} {b : Addr} {As : List Value} {D : va_G} {cI cZ cL : ClassId} {wc wt wr : va_W} {w1 wt' : α → va_W} {A0 : Nat → Prop} {H0 : Heap} {rv : α → Option Value} {Rr : String ⊕ α}
theorem zz_x (hr : vx_Run p l e R s m args below meth c H locs cells slots mc ms (F0 m pc ls st0) rest (QT D rv (va_A wc H.size) w1 Rr a) (XT D (va_A wc H.size) wc Rr) (va_A wc H.size)) (hP : va_P D vwCl wt H) (hD : va_D A0 wt) (hS : va_S A0 H0 H locs) (hA : ∀ q, H0.size ≤ q → A0 q)
    (isC isR isP : List Nat) (hC : isC.map (fun i => wt[i]?) = wc.map some) (hR : isR.map (fun i => wt[i]?) = wr.map some) (hn : va_nd isR = true) (hdis : ∀ i ∈ isR, i ∉ isC) (hp : ∀ u, isP.map (fun i => (wr ++ w1 u)[i]?) = (wt' u).map some) (hp0 : isP.map (fun i => (wr ++ wc)[i]?) = wt.map some) (hpn : va_nd isP = true)
    (kx : ∀ (E : String) (ce : Cell) (q9 : Addr) (H1 : Heap) (locs1 : List Loc), Rr = .inl E → va_P D vwCl wt H1 → va_D A0 wt → va_S A0 H0 H1 locs1 → H1[q9]? = some ce → ce.vm = .none → s.vm.findClass E = some ce.cls → vx_W p l e R s m args below meth c H1 locs1 (cells + mc) (slots + ms) Q (F0 m pc ls rest) q9)
    (kk : ∀ (u : α) (H1 : Heap) (locs1 : List Loc), Rr = .inr u → va_P D vwCl (wt' u) H1 → va_D A0 (wt' u) → va_S A0 H0 H1 locs1 → W p l e R s m args below meth c H1 locs1 (cells + mc) (slots + ms) Q (F0 m (pc + 3) ls ((rv u).toList ++ rest))) : W p l e R s m args below meth c H locs cells slots Q (F0 m pc ls st0) := by
  have hF : ∀ q, va_A wc H.size q → A0 q := va_free (wc := wc) hD hS hA isC hC
  have key : ∀ (t : State) (L : List Loc), H.size ≤ t.heap.size → (∀ q : Nat, q < H.size → ¬ va_A wc H.size q → t.heap[q]? = H[q]?) → (∀ q ∈ L, va_A wc H.size q.base) → va_S A0 H0 t.heap (locs ++ L) := fun t L hz hk hL =>
    ⟨Nat.le_trans hS.1 hz, fun q h1 h2 => by rw [hk q (Nat.lt_of_lt_of_le h1 hS.1) (fun z => h2 (hF q z))]; exact hS.2.1 q h1 h2, fun q hq => by
      rcases List.mem_append.mp hq with h | h
      · exact hS.2.2 q h
      · exact hF _ (hL q h)⟩
  intro T hT X
  rcases hr T hT X with ⟨v, st₀, t, T', L, h0, X', hL, e1, e2, ⟨u, hu, hv, hP1, hD1, hz, hk⟩, st⟩ | ⟨q, st₀, t, T', L, E, ce, h0, X', hL, e1, e2, ⟨hE, hP1, hD1, hz, hk⟩, hce, hcv, hcl, st⟩
  · cases hv
    rw [h0] at hz hk
    obtain ⟨hP2, hD2⟩ := va_join (wr := wr) (w1 := w1 u) hP hD isC isR hC hR hn hdis (fun q h1 h2 => hk q h1 h2) hF hP1 hD1
    obtain ⟨t2, a1, b1⟩ := kk u t.heap (locs ++ L) hu (hP2.sub isP (zz_fm (hp u))) (hD2.sub isP hpn (hp u)) (key t L hz hk hL) T' e1 X'
    exact ⟨t2, st t2 a1, b1⟩
  · rw [h0] at hz hk
    obtain ⟨hP2, hD2⟩ := va_join (wr := wr) (w1 := wc) hP hD isC isR hC hR hn hdis (fun q h1 h2 => hk q h1 h2) hF hP1 hD1
    obtain ⟨t2, a1, b1⟩ := kx E ce q t.heap (locs ++ L) hE (hP2.sub isP (zz_fm hp0)) (hD2.sub isP hpn hp0) (key t L hz hk hL) hce hcv hcl T' e1 X'
    exact ⟨t2, st.trans a1, b1⟩
theorem zz_xV (S : CallFix p m c cc nL s args Ts own) (hM : vx_Met l y ws rm (PT D cI cZ cL (.ref b :: As) wc H.size) (QT D rv (va_A wc H.size) w1 Rr) (XT D (va_A wc H.size) wc Rr) mc ms (va_A wc H.size)) (cw : CallW R s args own C index y bytes maxL ret ws rm mc ms n)
    (hP : va_P D vwCl wt H) (hD : va_D A0 wt) (hS : va_S A0 s.heap H locs) (hA : ∀ q, s.heap.size ≤ q → A0 q) (hK : K0 D cI cZ cL s) (hKS : KS s) (hKZ : KZ A0 s s.heap) (isC isR isP : List Nat) (hC : isC.map (fun i => wt[i]?) = wc.map some) (hR : isR.map (fun i => wt[i]?) = wr.map some) (hn : va_nd isR = true) (hdis : ∀ i ∈ isR, i ∉ isC) (hp : ∀ u, isP.map (fun i => (wr ++ w1 u)[i]?) = (wt' u).map some) (hp0 : isP.map (fun i => (wr ++ wc)[i]?) = wt.map some) (hpn : va_nd isP = true) (hcn : va_nd isC = true)
    (hcell : ∃ cellB : Cell, H[b]? = some cellB ∧ cellB.vm.isStatics = false ∧ s.vm.findClass C = some cellB.cls) (hna : As.length = n) (hsize : ls.size = nL) (hst : st0 = As.reverse ++ .ref b :: rest) (hW : (rest.map fun v => v.category).sum ≤ 8)
    (hdg : decode cc pc = .ok (.invokevirtual index, 3)) (hf : cells + mc ≤ R.cells ∧ slots + ms ≤ R.slots)
    (kx : ∀ (E : String) (ce : Cell) (q9 : Addr) (H1 : Heap) (locs1 : List Loc), Rr = .inl E → va_P D vwCl wt H1 → va_D A0 wt → va_S A0 s.heap H1 locs1 → H1[q9]? = some ce → ce.vm = .none → s.vm.findClass E = some ce.cls → vx_W p l e R s m args below meth c H1 locs1 (cells + mc) (slots + ms) Q (F0 m pc ls rest) q9)
    (kk : ∀ (u : α) (H1 : Heap) (locs1 : List Loc), Rr = .inr u → va_P D vwCl (wt' u) H1 → va_D A0 (wt' u) → va_S A0 s.heap H1 locs1 → W p l e R s m args below meth c H1 locs1 (cells + mc) (slots + ms) Q (F0 m (pc + 3) ls ((rv u).toList ++ rest))) : W p l e R s m args below meth c H locs cells slots Q (F0 m pc ls st0) :=
  zz_x (vx_runV S hM cw ⟨PT_blind, hcell, fun U hU hW => ⟨rfl, by rw [hU], by rw [hU]; exact hP.sub isC (zz_fm hC), hK.warm hW, (hD.sub isC hcn hC).weaken (fun _ _ _ _ => trivial), hKS.warm hW, by rw [hU]; exact ((hKZ.kept (fun q h1 h2 => hS.2.1 q h1 h2)).narrow (va_free (wc := wc) hD hS hA isC hC)).moved hW.alike⟩⟩ rfl hna hsize hst (lv_room hW) hdg hf) hP hD hS hA isC isR isP hC hR hn hdis hp hp0 hpn kx kk
end ZX
def bx0 {ρ : Type} (x : Option (String ⊕ Unit)) (k : Option (String ⊕ ρ)) : Option (String ⊕ ρ) := x.bind (fun R => match R with
  | .inl E => some (.inl E)
  | .inr _ => k)
theorem bx0_r {ρ : Type} {x : Option (String ⊕ Unit)} {k : Option (String ⊕ ρ)} {r : String ⊕ ρ} (h : bx0 x k = some r) : ∃ Rr : String ⊕ Unit, x = some Rr ∧ (∀ E, Rr = .inl E → r = .inl E) ∧ (∀ u, Rr = .inr u → k = some r) := by
  cases x with
  | none => cases h
  | some R =>
    refine ⟨R, rfl, fun E hE => ?_, fun u hu => ?_⟩
    · subst hE; exact (Option.some.inj h).symm
    · subst hu; exact h
theorem bx1_r {A1 ρ : Type} {x : Option (String ⊕ (A1))} {k : A1 → Option (String ⊕ ρ)} {r : String ⊕ ρ} (h : bx1 x k = some r) : ∃ Rr : String ⊕ (A1), x = some Rr ∧ (∀ E, Rr = .inl E → r = .inl E) ∧ (∀ (x1 : A1), Rr = .inr x1 → k x1 = some r) := by
  cases x with
  | none => cases h
  | some R =>
    refine ⟨R, rfl, fun E hE => ?_, fun x1 hu => ?_⟩
    · subst hE; exact (Option.some.inj h).symm
    · subst hu; exact h
theorem bx2_r {A1 A2 ρ : Type} {x : Option (String ⊕ (A1 × A2))} {k : A1 → A2 → Option (String ⊕ ρ)} {r : String ⊕ ρ} (h : bx2 x k = some r) : ∃ Rr : String ⊕ (A1 × A2), x = some Rr ∧ (∀ E, Rr = .inl E → r = .inl E) ∧ (∀ (x1 : A1) (x2 : A2), Rr = .inr (x1, x2) → k x1 x2 = some r) := by
  cases x with
  | none => cases h
  | some R =>
    refine ⟨R, rfl, fun E hE => ?_, fun x1 x2 hu => ?_⟩
    · subst hE; exact (Option.some.inj h).symm
    · subst hu; exact h
theorem bx3_r {A1 A2 A3 ρ : Type} {x : Option (String ⊕ (A1 × A2 × A3))} {k : A1 → A2 → A3 → Option (String ⊕ ρ)} {r : String ⊕ ρ} (h : bx3 x k = some r) : ∃ Rr : String ⊕ (A1 × A2 × A3), x = some Rr ∧ (∀ E, Rr = .inl E → r = .inl E) ∧ (∀ (x1 : A1) (x2 : A2) (x3 : A3), Rr = .inr (x1, x2, x3) → k x1 x2 x3 = some r) := by
  cases x with
  | none => cases h
  | some R =>
    refine ⟨R, rfl, fun E hE => ?_, fun x1 x2 x3 hu => ?_⟩
    · subst hE; exact (Option.some.inj h).symm
    · subst hu; exact h
theorem bx4_r {A1 A2 A3 A4 ρ : Type} {x : Option (String ⊕ (A1 × A2 × A3 × A4))} {k : A1 → A2 → A3 → A4 → Option (String ⊕ ρ)} {r : String ⊕ ρ} (h : bx4 x k = some r) : ∃ Rr : String ⊕ (A1 × A2 × A3 × A4), x = some Rr ∧ (∀ E, Rr = .inl E → r = .inl E) ∧ (∀ (x1 : A1) (x2 : A2) (x3 : A3) (x4 : A4), Rr = .inr (x1, x2, x3, x4) → k x1 x2 x3 x4 = some r) := by
  cases x with
  | none => cases h
  | some R =>
    refine ⟨R, rfl, fun E hE => ?_, fun x1 x2 x3 x4 hu => ?_⟩
    · subst hE; exact (Option.some.inj h).symm
    · subst hu; exact h
theorem bx5_r {A1 A2 A3 A4 A5 ρ : Type} {x : Option (String ⊕ (A1 × A2 × A3 × A4 × A5))} {k : A1 → A2 → A3 → A4 → A5 → Option (String ⊕ ρ)} {r : String ⊕ ρ} (h : bx5 x k = some r) : ∃ Rr : String ⊕ (A1 × A2 × A3 × A4 × A5), x = some Rr ∧ (∀ E, Rr = .inl E → r = .inl E) ∧ (∀ (x1 : A1) (x2 : A2) (x3 : A3) (x4 : A4) (x5 : A5), Rr = .inr (x1, x2, x3, x4, x5) → k x1 x2 x3 x4 x5 = some r) := by
  cases x with
  | none => cases h
  | some R =>
    refine ⟨R, rfl, fun E hE => ?_, fun x1 x2 x3 x4 x5 hu => ?_⟩
    · subst hE; exact (Option.some.inj h).symm
    · subst hu; exact h
theorem bx6_r {A1 A2 A3 A4 A5 A6 ρ : Type} {x : Option (String ⊕ (A1 × A2 × A3 × A4 × A5 × A6))} {k : A1 → A2 → A3 → A4 → A5 → A6 → Option (String ⊕ ρ)} {r : String ⊕ ρ} (h : bx6 x k = some r) : ∃ Rr : String ⊕ (A1 × A2 × A3 × A4 × A5 × A6), x = some Rr ∧ (∀ E, Rr = .inl E → r = .inl E) ∧ (∀ (x1 : A1) (x2 : A2) (x3 : A3) (x4 : A4) (x5 : A5) (x6 : A6), Rr = .inr (x1, x2, x3, x4, x5, x6) → k x1 x2 x3 x4 x5 x6 = some r) := by
  cases x with
  | none => cases h
  | some R =>
    refine ⟨R, rfl, fun E hE => ?_, fun x1 x2 x3 x4 x5 x6 hu => ?_⟩
    · subst hE; exact (Option.some.inj h).symm
    · subst hu; exact h
theorem bx7_r {A1 A2 A3 A4 A5 A6 A7 ρ : Type} {x : Option (String ⊕ (A1 × A2 × A3 × A4 × A5 × A6 × A7))} {k : A1 → A2 → A3 → A4 → A5 → A6 → A7 → Option (String ⊕ ρ)} {r : String ⊕ ρ} (h : bx7 x k = some r) : ∃ Rr : String ⊕ (A1 × A2 × A3 × A4 × A5 × A6 × A7), x = some Rr ∧ (∀ E, Rr = .inl E → r = .inl E) ∧ (∀ (x1 : A1) (x2 : A2) (x3 : A3) (x4 : A4) (x5 : A5) (x6 : A6) (x7 : A7), Rr = .inr (x1, x2, x3, x4, x5, x6, x7) → k x1 x2 x3 x4 x5 x6 x7 = some r) := by
  cases x with
  | none => cases h
  | some R =>
    refine ⟨R, rfl, fun E hE => ?_, fun x1 x2 x3 x4 x5 x6 x7 hu => ?_⟩
    · subst hE; exact (Option.some.inj h).symm
    · subst hu; exact h
theorem bx8_r {A1 A2 A3 A4 A5 A6 A7 A8 ρ : Type} {x : Option (String ⊕ (A1 × A2 × A3 × A4 × A5 × A6 × A7 × A8))} {k : A1 → A2 → A3 → A4 → A5 → A6 → A7 → A8 → Option (String ⊕ ρ)} {r : String ⊕ ρ} (h : bx8 x k = some r) : ∃ Rr : String ⊕ (A1 × A2 × A3 × A4 × A5 × A6 × A7 × A8), x = some Rr ∧ (∀ E, Rr = .inl E → r = .inl E) ∧ (∀ (x1 : A1) (x2 : A2) (x3 : A3) (x4 : A4) (x5 : A5) (x6 : A6) (x7 : A7) (x8 : A8), Rr = .inr (x1, x2, x3, x4, x5, x6, x7, x8) → k x1 x2 x3 x4 x5 x6 x7 x8 = some r) := by
  cases x with
  | none => cases h
  | some R =>
    refine ⟨R, rfl, fun E hE => ?_, fun x1 x2 x3 x4 x5 x6 x7 x8 hu => ?_⟩
    · subst hE; exact (Option.some.inj h).symm
    · subst hu; exact h
theorem bx9_r {A1 A2 A3 A4 A5 A6 A7 A8 A9 ρ : Type} {x : Option (String ⊕ (A1 × A2 × A3 × A4 × A5 × A6 × A7 × A8 × A9))} {k : A1 → A2 → A3 → A4 → A5 → A6 → A7 → A8 → A9 → Option (String ⊕ ρ)} {r : String ⊕ ρ} (h : bx9 x k = some r) : ∃ Rr : String ⊕ (A1 × A2 × A3 × A4 × A5 × A6 × A7 × A8 × A9), x = some Rr ∧ (∀ E, Rr = .inl E → r = .inl E) ∧ (∀ (x1 : A1) (x2 : A2) (x3 : A3) (x4 : A4) (x5 : A5) (x6 : A6) (x7 : A7) (x8 : A8) (x9 : A9), Rr = .inr (x1, x2, x3, x4, x5, x6, x7, x8, x9) → k x1 x2 x3 x4 x5 x6 x7 x8 x9 = some r) := by
  cases x with
  | none => cases h
  | some R =>
    refine ⟨R, rfl, fun E hE => ?_, fun x1 x2 x3 x4 x5 x6 x7 x8 x9 hu => ?_⟩
    · subst hE; exact (Option.some.inj h).symm
    · subst hu; exact h
theorem bx10_r {A1 A2 A3 A4 A5 A6 A7 A8 A9 A10 ρ : Type} {x : Option (String ⊕ (A1 × A2 × A3 × A4 × A5 × A6 × A7 × A8 × A9 × A10))} {k : A1 → A2 → A3 → A4 → A5 → A6 → A7 → A8 → A9 → A10 → Option (String ⊕ ρ)} {r : String ⊕ ρ} (h : bx10 x k = some r) : ∃ Rr : String ⊕ (A1 × A2 × A3 × A4 × A5 × A6 × A7 × A8 × A9 × A10), x = some Rr ∧ (∀ E, Rr = .inl E → r = .inl E) ∧ (∀ (x1 : A1) (x2 : A2) (x3 : A3) (x4 : A4) (x5 : A5) (x6 : A6) (x7 : A7) (x8 : A8) (x9 : A9) (x10 : A10), Rr = .inr (x1, x2, x3, x4, x5, x6, x7, x8, x9, x10) → k x1 x2 x3 x4 x5 x6 x7 x8 x9 x10 = some r) := by
  cases x with
  | none => cases h
  | some R =>
    refine ⟨R, rfl, fun E hE => ?_, fun x1 x2 x3 x4 x5 x6 x7 x8 x9 x10 hu => ?_⟩
    · subst hE; exact (Option.some.inj h).symm
    · subst hu; exact h
theorem bx11_r {A1 A2 A3 A4 A5 A6 A7 A8 A9 A10 A11 ρ : Type} {x : Option (String ⊕ (A1 × A2 × A3 × A4 × A5 × A6 × A7 × A8 × A9 × A10 × A11))} {k : A1 → A2 → A3 → A4 → A5 → A6 → A7 → A8 → A9 → A10 → A11 → Option (String ⊕ ρ)} {r : String ⊕ ρ} (h : bx11 x k = some r) : ∃ Rr : String ⊕ (A1 × A2 × A3 × A4 × A5 × A6 × A7 × A8 × A9 × A10 × A11), x = some Rr ∧ (∀ E, Rr = .inl E → r = .inl E) ∧ (∀ (x1 : A1) (x2 : A2) (x3 : A3) (x4 : A4) (x5 : A5) (x6 : A6) (x7 : A7) (x8 : A8) (x9 : A9) (x10 : A10) (x11 : A11), Rr = .inr (x1, x2, x3, x4, x5, x6, x7, x8, x9, x10, x11) → k x1 x2 x3 x4 x5 x6 x7 x8 x9 x10 x11 = some r) := by
  cases x with
  | none => cases h
  | some R =>
    refine ⟨R, rfl, fun E hE => ?_, fun x1 x2 x3 x4 x5 x6 x7 x8 x9 x10 x11 hu => ?_⟩
    · subst hE; exact (Option.some.inj h).symm
    · subst hu; exact h
theorem bx12_r {A1 A2 A3 A4 A5 A6 A7 A8 A9 A10 A11 A12 ρ : Type} {x : Option (String ⊕ (A1 × A2 × A3 × A4 × A5 × A6 × A7 × A8 × A9 × A10 × A11 × A12))} {k : A1 → A2 → A3 → A4 → A5 → A6 → A7 → A8 → A9 → A10 → A11 → A12 → Option (String ⊕ ρ)} {r : String ⊕ ρ} (h : bx12 x k = some r) : ∃ Rr : String ⊕ (A1 × A2 × A3 × A4 × A5 × A6 × A7 × A8 × A9 × A10 × A11 × A12), x = some Rr ∧ (∀ E, Rr = .inl E → r = .inl E) ∧ (∀ (x1 : A1) (x2 : A2) (x3 : A3) (x4 : A4) (x5 : A5) (x6 : A6) (x7 : A7) (x8 : A8) (x9 : A9) (x10 : A10) (x11 : A11) (x12 : A12), Rr = .inr (x1, x2, x3, x4, x5, x6, x7, x8, x9, x10, x11, x12) → k x1 x2 x3 x4 x5 x6 x7 x8 x9 x10 x11 x12 = some r) := by
  cases x with
  | none => cases h
  | some R =>
    refine ⟨R, rfl, fun E hE => ?_, fun x1 x2 x3 x4 x5 x6 x7 x8 x9 x10 x11 x12 hu => ?_⟩
    · subst hE; exact (Option.some.inj h).symm
    · subst hu; exact h
theorem bx13_r {A1 A2 A3 A4 A5 A6 A7 A8 A9 A10 A11 A12 A13 ρ : Type} {x : Option (String ⊕ (A1 × A2 × A3 × A4 × A5 × A6 × A7 × A8 × A9 × A10 × A11 × A12 × A13))} {k : A1 → A2 → A3 → A4 → A5 → A6 → A7 → A8 → A9 → A10 → A11 → A12 → A13 → Option (String ⊕ ρ)} {r : String ⊕ ρ} (h : bx13 x k = some r) : ∃ Rr : String ⊕ (A1 × A2 × A3 × A4 × A5 × A6 × A7 × A8 × A9 × A10 × A11 × A12 × A13), x = some Rr ∧ (∀ E, Rr = .inl E → r = .inl E) ∧ (∀ (x1 : A1) (x2 : A2) (x3 : A3) (x4 : A4) (x5 : A5) (x6 : A6) (x7 : A7) (x8 : A8) (x9 : A9) (x10 : A10) (x11 : A11) (x12 : A12) (x13 : A13), Rr = .inr (x1, x2, x3, x4, x5, x6, x7, x8, x9, x10, x11, x12, x13) → k x1 x2 x3 x4 x5 x6 x7 x8 x9 x10 x11 x12 x13 = some r) := by
  cases x with
  | none => cases h
  | some R =>
    refine ⟨R, rfl, fun E hE => ?_, fun x1 x2 x3 x4 x5 x6 x7 x8 x9 x10 x11 x12 x13 hu => ?_⟩
    · subst hE; exact (Option.some.inj h).symm
    · subst hu; exact h
theorem bx14_r {A1 A2 A3 A4 A5 A6 A7 A8 A9 A10 A11 A12 A13 A14 ρ : Type} {x : Option (String ⊕ (A1 × A2 × A3 × A4 × A5 × A6 × A7 × A8 × A9 × A10 × A11 × A12 × A13 × A14))} {k : A1 → A2 → A3 → A4 → A5 → A6 → A7 → A8 → A9 → A10 → A11 → A12 → A13 → A14 → Option (String ⊕ ρ)} {r : String ⊕ ρ} (h : bx14 x k = some r) : ∃ Rr : String ⊕ (A1 × A2 × A3 × A4 × A5 × A6 × A7 × A8 × A9 × A10 × A11 × A12 × A13 × A14), x = some Rr ∧ (∀ E, Rr = .inl E → r = .inl E) ∧ (∀ (x1 : A1) (x2 : A2) (x3 : A3) (x4 : A4) (x5 : A5) (x6 : A6) (x7 : A7) (x8 : A8) (x9 : A9) (x10 : A10) (x11 : A11) (x12 : A12) (x13 : A13) (x14 : A14), Rr = .inr (x1, x2, x3, x4, x5, x6, x7, x8, x9, x10, x11, x12, x13, x14) → k x1 x2 x3 x4 x5 x6 x7 x8 x9 x10 x11 x12 x13 x14 = some r) := by
  cases x with
  | none => cases h
  | some R =>
    refine ⟨R, rfl, fun E hE => ?_, fun x1 x2 x3 x4 x5 x6 x7 x8 x9 x10 x11 x12 x13 x14 hu => ?_⟩
    · subst hE; exact (Option.some.inj h).symm
    · subst hu; exact h
theorem bx15_r {A1 A2 A3 A4 A5 A6 A7 A8 A9 A10 A11 A12 A13 A14 A15 ρ : Type} {x : Option (String ⊕ (A1 × A2 × A3 × A4 × A5 × A6 × A7 × A8 × A9 × A10 × A11 × A12 × A13 × A14 × A15))} {k : A1 → A2 → A3 → A4 → A5 → A6 → A7 → A8 → A9 → A10 → A11 → A12 → A13 → A14 → A15 → Option (String ⊕ ρ)} {r : String ⊕ ρ} (h : bx15 x k = some r) : ∃ Rr : String ⊕ (A1 × A2 × A3 × A4 × A5 × A6 × A7 × A8 × A9 × A10 × A11 × A12 × A13 × A14 × A15), x = some Rr ∧ (∀ E, Rr = .inl E → r = .inl E) ∧ (∀ (x1 : A1) (x2 : A2) (x3 : A3) (x4 : A4) (x5 : A5) (x6 : A6) (x7 : A7) (x8 : A8) (x9 : A9) (x10 : A10) (x11 : A11) (x12 : A12) (x13 : A13) (x14 : A14) (x15 : A15), Rr = .inr (x1, x2, x3, x4, x5, x6, x7, x8, x9, x10, x11, x12, x13, x14, x15) → k x1 x2 x3 x4 x5 x6 x7 x8 x9 x10 x11 x12 x13 x14 x15 = some r) := by
  cases x with
  | none => cases h
  | some R =>
    refine ⟨R, rfl, fun E hE => ?_, fun x1 x2 x3 x4 x5 x6 x7 x8 x9 x10 x11 x12 x13 x14 x15 hu => ?_⟩
    · subst hE; exact (Option.some.inj h).symm
    · subst hu; exact h
theorem bx16_r {A1 A2 A3 A4 A5 A6 A7 A8 A9 A10 A11 A12 A13 A14 A15 A16 ρ : Type} {x : Option (String ⊕ (A1 × A2 × A3 × A4 × A5 × A6 × A7 × A8 × A9 × A10 × A11 × A12 × A13 × A14 × A15 × A16))} {k : A1 → A2 → A3 → A4 → A5 → A6 → A7 → A8 → A9 → A10 → A11 → A12 → A13 → A14 → A15 → A16 → Option (String ⊕ ρ)} {r : String ⊕ ρ} (h : bx16 x k = some r) : ∃ Rr : String ⊕ (A1 × A2 × A3 × A4 × A5 × A6 × A7 × A8 × A9 × A10 × A11 × A12 × A13 × A14 × A15 × A16), x = some Rr ∧ (∀ E, Rr = .inl E → r = .inl E) ∧ (∀ (x1 : A1) (x2 : A2) (x3 : A3) (x4 : A4) (x5 : A5) (x6 : A6) (x7 : A7) (x8 : A8) (x9 : A9) (x10 : A10) (x11 : A11) (x12 : A12) (x13 : A13) (x14 : A14) (x15 : A15) (x16 : A16), Rr = .inr (x1, x2, x3, x4, x5, x6, x7, x8, x9, x10, x11, x12, x13, x14, x15, x16) → k x1 x2 x3 x4 x5 x6 x7 x8 x9 x10 x11 x12 x13 x14 x15 x16 = some r) := by
  cases x with
  | none => cases h
  | some R =>
    refine ⟨R, rfl, fun E hE => ?_, fun x1 x2 x3 x4 x5 x6 x7 x8 x9 x10 x11 x12 x13 x14 x15 x16 hu => ?_⟩
    · subst hE; exact (Option.some.inj h).symm
    · subst hu; exact h
theorem bx17_r {A1 A2 A3 A4 A5 A6 A7 A8 A9 A10 A11 A12 A13 A14 A15 A16 A17 ρ : Type} {x : Option (String ⊕ (A1 × A2 × A3 × A4 × A5 × A6 × A7 × A8 × A9 × A10 × A11 × A12 × A13 × A14 × A15 × A16 × A17))} {k : A1 → A2 → A3 → A4 → A5 → A6 → A7 → A8 → A9 → A10 → A11 → A12 → A13 → A14 → A15 → A16 → A17 → Option (String ⊕ ρ)} {r : String ⊕ ρ} (h : bx17 x k = some r) : ∃ Rr : String ⊕ (A1 × A2 × A3 × A4 × A5 × A6 × A7 × A8 × A9 × A10 × A11 × A12 × A13 × A14 × A15 × A16 × A17), x = some Rr ∧ (∀ E, Rr = .inl E → r = .inl E) ∧ (∀ (x1 : A1) (x2 : A2) (x3 : A3) (x4 : A4) (x5 : A5) (x6 : A6) (x7 : A7) (x8 : A8) (x9 : A9) (x10 : A10) (x11 : A11) (x12 : A12) (x13 : A13) (x14 : A14) (x15 : A15) (x16 : A16) (x17 : A17), Rr = .inr (x1, x2, x3, x4, x5, x6, x7, x8, x9, x10, x11, x12, x13, x14, x15, x16, x17) → k x1 x2 x3 x4 x5 x6 x7 x8 x9 x10 x11 x12 x13 x14 x15 x16 x17 = some r) := by
  cases x with
  | none => cases h
  | some R =>
    refine ⟨R, rfl, fun E hE => ?_, fun x1 x2 x3 x4 x5 x6 x7 x8 x9 x10 x11 x12 x13 x14 x15 x16 x17 hu => ?_⟩
    · subst hE; exact (Option.some.inj h).symm
    · subst hu; exact h
theorem bx18_r {A1 A2 A3 A4 A5 A6 A7 A8 A9 A10 A11 A12 A13 A14 A15 A16 A17 A18 ρ : Type} {x : Option (String ⊕ (A1 × A2 × A3 × A4 × A5 × A6 × A7 × A8 × A9 × A10 × A11 × A12 × A13 × A14 × A15 × A16 × A17 × A18))} {k : A1 → A2 → A3 → A4 → A5 → A6 → A7 → A8 → A9 → A10 → A11 → A12 → A13 → A14 → A15 → A16 → A17 → A18 → Option (String ⊕ ρ)} {r : String ⊕ ρ} (h : bx18 x k = some r) : ∃ Rr : String ⊕ (A1 × A2 × A3 × A4 × A5 × A6 × A7 × A8 × A9 × A10 × A11 × A12 × A13 × A14 × A15 × A16 × A17 × A18), x = some Rr ∧ (∀ E, Rr = .inl E → r = .inl E) ∧ (∀ (x1 : A1) (x2 : A2) (x3 : A3) (x4 : A4) (x5 : A5) (x6 : A6) (x7 : A7) (x8 : A8) (x9 : A9) (x10 : A10) (x11 : A11) (x12 : A12) (x13 : A13) (x14 : A14) (x15 : A15) (x16 : A16) (x17 : A17) (x18 : A18), Rr = .inr (x1, x2, x3, x4, x5, x6, x7, x8, x9, x10, x11, x12, x13, x14, x15, x16, x17, x18) → k x1 x2 x3 x4 x5 x6 x7 x8 x9 x10 x11 x12 x13 x14 x15 x16 x17 x18 = some r) := by
  cases x with
  | none => cases h
  | some R =>
    refine ⟨R, rfl, fun E hE => ?_, fun x1 x2 x3 x4 x5 x6 x7 x8 x9 x10 x11 x12 x13 x14 x15 x16 x17 x18 hu => ?_⟩
    · subst hE; exact (Option.some.inj h).symm
    · subst hu; exact h
theorem bx19_r {A1 A2 A3 A4 A5 A6 A7 A8 A9 A10 A11 A12 A13 A14 A15 A16 A17 A18 A19 ρ : Type} {x : Option (String ⊕ (A1 × A2 × A3 × A4 × A5 × A6 × A7 × A8 × A9 × A10 × A11 × A12 × A13 × A14 × A15 × A16 × A17 × A18 × A19))} {k : A1 → A2 → A3 → A4 → A5 → A6 → A7 → A8 → A9 → A10 → A11 → A12 → A13 → A14 → A15 → A16 → A17 → A18 → A19 → Option (String ⊕ ρ)} {r : String ⊕ ρ} (h : bx19 x k = some r) : ∃ Rr : String ⊕ (A1 × A2 × A3 × A4 × A5 × A6 × A7 × A8 × A9 × A10 × A11 × A12 × A13 × A14 × A15 × A16 × A17 × A18 × A19), x = some Rr ∧ (∀ E, Rr = .inl E → r = .inl E) ∧ (∀ (x1 : A1) (x2 : A2) (x3 : A3) (x4 : A4) (x5 : A5) (x6 : A6) (x7 : A7) (x8 : A8) (x9 : A9) (x10 : A10) (x11 : A11) (x12 : A12) (x13 : A13) (x14 : A14) (x15 : A15) (x16 : A16) (x17 : A17) (x18 : A18) (x19 : A19), Rr = .inr (x1, x2, x3, x4, x5, x6, x7, x8, x9, x10, x11, x12, x13, x14, x15, x16, x17, x18, x19) → k x1 x2 x3 x4 x5 x6 x7 x8 x9 x10 x11 x12 x13 x14 x15 x16 x17 x18 x19 = some r) := by
  cases x with
  | none => cases h
  | some R =>
    refine ⟨R, rfl, fun E hE => ?_, fun x1 x2 x3 x4 x5 x6 x7 x8 x9 x10 x11 x12 x13 x14 x15 x16 x17 x18 x19 hu => ?_⟩
    · subst hE; exact (Option.some.inj h).symm
    · subst hu; exact h
theorem bx20_r {A1 A2 A3 A4 A5 A6 A7 A8 A9 A10 A11 A12 A13 A14 A15 A16 A17 A18 A19 A20 ρ : Type} {x : Option (String ⊕ (A1 × A2 × A3 × A4 × A5 × A6 × A7 × A8 × A9 × A10 × A11 × A12 × A13 × A14 × A15 × A16 × A17 × A18 × A19 × A20))} {k : A1 → A2 → A3 → A4 → A5 → A6 → A7 → A8 → A9 → A10 → A11 → A12 → A13 → A14 → A15 → A16 → A17 → A18 → A19 → A20 → Option (String ⊕ ρ)} {r : String ⊕ ρ} (h : bx20 x k = some r) : ∃ Rr : String ⊕ (A1 × A2 × A3 × A4 × A5 × A6 × A7 × A8 × A9 × A10 × A11 × A12 × A13 × A14 × A15 × A16 × A17 × A18 × A19 × A20), x = some Rr ∧ (∀ E, Rr = .inl E → r = .inl E) ∧ (∀ (x1 : A1) (x2 : A2) (x3 : A3) (x4 : A4) (x5 : A5) (x6 : A6) (x7 : A7) (x8 : A8) (x9 : A9) (x10 : A10) (x11 : A11) (x12 : A12) (x13 : A13) (x14 : A14) (x15 : A15) (x16 : A16) (x17 : A17) (x18 : A18) (x19 : A19) (x20 : A20), Rr = .inr (x1, x2, x3, x4, x5, x6, x7, x8, x9, x10, x11, x12, x13, x14, x15, x16, x17, x18, x19, x20) → k x1 x2 x3 x4 x5 x6 x7 x8 x9 x10 x11 x12 x13 x14 x15 x16 x17 x18 x19 x20 = some r) := by
  cases x with
  | none => cases h
  | some R =>
    refine ⟨R, rfl, fun E hE => ?_, fun x1 x2 x3 x4 x5 x6 x7 x8 x9 x10 x11 x12 x13 x14 x15 x16 x17 x18 x19 x20 hu => ?_⟩
    · subst hE; exact (Option.some.inj h).symm
    · subst hu; exact h
theorem bx21_r {A1 A2 A3 A4 A5 A6 A7 A8 A9 A10 A11 A12 A13 A14 A15 A16 A17 A18 A19 A20 A21 ρ : Type} {x : Option (String ⊕ (A1 × A2 × A3 × A4 × A5 × A6 × A7 × A8 × A9 × A10 × A11 × A12 × A13 × A14 × A15 × A16 × A17 × A18 × A19 × A20 × A21))} {k : A1 → A2 → A3 → A4 → A5 → A6 → A7 → A8 → A9 → A10 → A11 → A12 → A13 → A14 → A15 → A16 → A17 → A18 → A19 → A20 → A21 → Option (String ⊕ ρ)} {r : String ⊕ ρ} (h : bx21 x k = some r) : ∃ Rr : String ⊕ (A1 × A2 × A3 × A4 × A5 × A6 × A7 × A8 × A9 × A10 × A11 × A12 × A13 × A14 × A15 × A16 × A17 × A18 × A19 × A20 × A21), x = some Rr ∧ (∀ E, Rr = .inl E → r = .inl E) ∧ (∀ (x1 : A1) (x2 : A2) (x3 : A3) (x4 : A4) (x5 : A5) (x6 : A6) (x7 : A7) (x8 : A8) (x9 : A9) (x10 : A10) (x11 : A11) (x12 : A12) (x13 : A13) (x14 : A14) (x15 : A15) (x16 : A16) (x17 : A17) (x18 : A18) (x19 : A19) (x20 : A20) (x21 : A21), Rr = .inr (x1, x2, x3, x4, x5, x6, x7, x8, x9, x10, x11, x12, x13, x14, x15, x16, x17, x18, x19, x20, x21) → k x1 x2 x3 x4 x5 x6 x7 x8 x9 x10 x11 x12 x13 x14 x15 x16 x17 x18 x19 x20 x21 = some r) := by
  cases x with
  | none => cases h
  | some R =>
    refine ⟨R, rfl, fun E hE => ?_, fun x1 x2 x3 x4 x5 x6 x7 x8 x9 x10 x11 x12 x13 x14 x15 x16 x17 x18 x19 x20 x21 hu => ?_⟩
    · subst hE; exact (Option.some.inj h).symm
    · subst hu; exact h
theorem bx22_r {A1 A2 A3 A4 A5 A6 A7 A8 A9 A10 A11 A12 A13 A14 A15 A16 A17 A18 A19 A20 A21 A22 ρ : Type} {x : Option (String ⊕ (A1 × A2 × A3 × A4 × A5 × A6 × A7 × A8 × A9 × A10 × A11 × A12 × A13 × A14 × A15 × A16 × A17 × A18 × A19 × A20 × A21 × A22))} {k : A1 → A2 → A3 → A4 → A5 → A6 → A7 → A8 → A9 → A10 → A11 → A12 → A13 → A14 → A15 → A16 → A17 → A18 → A19 → A20 → A21 → A22 → Option (String ⊕ ρ)} {r : String ⊕ ρ} (h : bx22 x k = some r) : ∃ Rr : String ⊕ (A1 × A2 × A3 × A4 × A5 × A6 × A7 × A8 × A9 × A10 × A11 × A12 × A13 × A14 × A15 × A16 × A17 × A18 × A19 × A20 × A21 × A22), x = some Rr ∧ (∀ E, Rr = .inl E → r = .inl E) ∧ (∀ (x1 : A1) (x2 : A2) (x3 : A3) (x4 : A4) (x5 : A5) (x6 : A6) (x7 : A7) (x8 : A8) (x9 : A9) (x10 : A10) (x11 : A11) (x12 : A12) (x13 : A13) (x14 : A14) (x15 : A15) (x16 : A16) (x17 : A17) (x18 : A18) (x19 : A19) (x20 : A20) (x21 : A21) (x22 : A22), Rr = .inr (x1, x2, x3, x4, x5, x6, x7, x8, x9, x10, x11, x12, x13, x14, x15, x16, x17, x18, x19, x20, x21, x22) → k x1 x2 x3 x4 x5 x6 x7 x8 x9 x10 x11 x12 x13 x14 x15 x16 x17 x18 x19 x20 x21 x22 = some r) := by
  cases x with
  | none => cases h
  | some R =>
    refine ⟨R, rfl, fun E hE => ?_, fun x1 x2 x3 x4 x5 x6 x7 x8 x9 x10 x11 x12 x13 x14 x15 x16 x17 x18 x19 x20 x21 x22 hu => ?_⟩
    · subst hE; exact (Option.some.inj h).symm
    · subst hu; exact h
theorem bx23_r {A1 A2 A3 A4 A5 A6 A7 A8 A9 A10 A11 A12 A13 A14 A15 A16 A17 A18 A19 A20 A21 A22 A23 ρ : Type} {x : Option (String ⊕ (A1 × A2 × A3 × A4 × A5 × A6 × A7 × A8 × A9 × A10 × A11 × A12 × A13 × A14 × A15 × A16 × A17 × A18 × A19 × A20 × A21 × A22 × A23))} {k : A1 → A2 → A3 → A4 → A5 → A6 → A7 → A8 → A9 → A10 → A11 → A12 → A13 → A14 → A15 → A16 → A17 → A18 → A19 → A20 → A21 → A22 → A23 → Option (String ⊕ ρ)} {r : String ⊕ ρ} (h : bx23 x k = some r) : ∃ Rr : String ⊕ (A1 × A2 × A3 × A4 × A5 × A6 × A7 × A8 × A9 × A10 × A11 × A12 × A13 × A14 × A15 × A16 × A17 × A18 × A19 × A20 × A21 × A22 × A23), x = some Rr ∧ (∀ E, Rr = .inl E → r = .inl E) ∧ (∀ (x1 : A1) (x2 : A2) (x3 : A3) (x4 : A4) (x5 : A5) (x6 : A6) (x7 : A7) (x8 : A8) (x9 : A9) (x10 : A10) (x11 : A11) (x12 : A12) (x13 : A13) (x14 : A14) (x15 : A15) (x16 : A16) (x17 : A17) (x18 : A18) (x19 : A19) (x20 : A20) (x21 : A21) (x22 : A22) (x23 : A23), Rr = .inr (x1, x2, x3, x4, x5, x6, x7, x8, x9, x10, x11, x12, x13, x14, x15, x16, x17, x18, x19, x20, x21, x22, x23) → k x1 x2 x3 x4 x5 x6 x7 x8 x9 x10 x11 x12 x13 x14 x15 x16 x17 x18 x19 x20 x21 x22 x23 = some r) := by
  cases x with
  | none => cases h
  | some R =>
    refine ⟨R, rfl, fun E hE => ?_, fun x1 x2 x3 x4 x5 x6 x7 x8 x9 x10 x11 x12 x13 x14 x15 x16 x17 x18 x19 x20 x21 x22 x23 hu => ?_⟩
    · subst hE; exact (Option.some.inj h).symm
    · subst hu; exact h
theorem bx24_r {A1 A2 A3 A4 A5 A6 A7 A8 A9 A10 A11 A12 A13 A14 A15 A16 A17 A18 A19 A20 A21 A22 A23 A24 ρ : Type} {x : Option (String ⊕ (A1 × A2 × A3 × A4 × A5 × A6 × A7 × A8 × A9 × A10 × A11 × A12 × A13 × A14 × A15 × A16 × A17 × A18 × A19 × A20 × A21 × A22 × A23 × A24))} {k : A1 → A2 → A3 → A4 → A5 → A6 → A7 → A8 → A9 → A10 → A11 → A12 → A13 → A14 → A15 → A16 → A17 → A18 → A19 → A20 → A21 → A22 → A23 → A24 → Option (String ⊕ ρ)} {r : String ⊕ ρ} (h : bx24 x k = some r) : ∃ Rr : String ⊕ (A1 × A2 × A3 × A4 × A5 × A6 × A7 × A8 × A9 × A10 × A11 × A12 × A13 × A14 × A15 × A16 × A17 × A18 × A19 × A20 × A21 × A22 × A23 × A24), x = some Rr ∧ (∀ E, Rr = .inl E → r = .inl E) ∧ (∀ (x1 : A1) (x2 : A2) (x3 : A3) (x4 : A4) (x5 : A5) (x6 : A6) (x7 : A7) (x8 : A8) (x9 : A9) (x10 : A10) (x11 : A11) (x12 : A12) (x13 : A13) (x14 : A14) (x15 : A15) (x16 : A16) (x17 : A17) (x18 : A18) (x19 : A19) (x20 : A20) (x21 : A21) (x22 : A22) (x23 : A23) (x24 : A24), Rr = .inr (x1, x2, x3, x4, x5, x6, x7, x8, x9, x10, x11, x12, x13, x14, x15, x16, x17, x18, x19, x20, x21, x22, x23, x24) → k x1 x2 x3 x4 x5 x6 x7 x8 x9 x10 x11 x12 x13 x14 x15 x16 x17 x18 x19 x20 x21 x22 x23 x24 = some r) := by
  cases x with
  | none => cases h
  | some R =>
    refine ⟨R, rfl, fun E hE => ?_, fun x1 x2 x3 x4 x5 x6 x7 x8 x9 x10 x11 x12 x13 x14 x15 x16 x17 x18 x19 x20 x21 x22 x23 x24 hu => ?_⟩
    · subst hE; exact (Option.some.inj h).symm
    · subst hu; exact h
theorem bx25_r {A1 A2 A3 A4 A5 A6 A7 A8 A9 A10 A11 A12 A13 A14 A15 A16 A17 A18 A19 A20 A21 A22 A23 A24 A25 ρ : Type} {x : Option (String ⊕ (A1 × A2 × A3 × A4 × A5 × A6 × A7 × A8 × A9 × A10 × A11 × A12 × A13 × A14 × A15 × A16 × A17 × A18 × A19 × A20 × A21 × A22 × A23 × A24 × A25))} {k : A1 → A2 → A3 → A4 → A5 → A6 → A7 → A8 → A9 → A10 → A11 → A12 → A13 → A14 → A15 → A16 → A17 → A18 → A19 → A20 → A21 → A22 → A23 → A24 → A25 → Option (String ⊕ ρ)} {r : String ⊕ ρ} (h : bx25 x k = some r) : ∃ Rr : String ⊕ (A1 × A2 × A3 × A4 × A5 × A6 × A7 × A8 × A9 × A10 × A11 × A12 × A13 × A14 × A15 × A16 × A17 × A18 × A19 × A20 × A21 × A22 × A23 × A24 × A25), x = some Rr ∧ (∀ E, Rr = .inl E → r = .inl E) ∧ (∀ (x1 : A1) (x2 : A2) (x3 : A3) (x4 : A4) (x5 : A5) (x6 : A6) (x7 : A7) (x8 : A8) (x9 : A9) (x10 : A10) (x11 : A11) (x12 : A12) (x13 : A13) (x14 : A14) (x15 : A15) (x16 : A16) (x17 : A17) (x18 : A18) (x19 : A19) (x20 : A20) (x21 : A21) (x22 : A22) (x23 : A23) (x24 : A24) (x25 : A25), Rr = .inr (x1, x2, x3, x4, x5, x6, x7, x8, x9, x10, x11, x12, x13, x14, x15, x16, x17, x18, x19, x20, x21, x22, x23, x24, x25) → k x1 x2 x3 x4 x5 x6 x7 x8 x9 x10 x11 x12 x13 x14 x15 x16 x17 x18 x19 x20 x21 x22 x23 x24 x25 = some r) := by
  cases x with
  | none => cases h
  | some R =>
    refine ⟨R, rfl, fun E hE => ?_, fun x1 x2 x3 x4 x5 x6 x7 x8 x9 x10 x11 x12 x13 x14 x15 x16 x17 x18 x19 x20 x21 x22 x23 x24 x25 hu => ?_⟩
    · subst hE; exact (Option.some.inj h).symm
    · subst hu; exact h
theorem bx26_r {A1 A2 A3 A4 A5 A6 A7 A8 A9 A10 A11 A12 A13 A14 A15 A16 A17 A18 A19 A20 A21 A22 A23 A24 A25 A26 ρ : Type} {x : Option (String ⊕ (A1 × A2 × A3 × A4 × A5 × A6 × A7 × A8 × A9 × A10 × A11 × A12 × A13 × A14 × A15 × A16 × A17 × A18 × A19 × A20 × A21 × A22 × A23 × A24 × A25 × A26))} {k : A1 → A2 → A3 → A4 → A5 → A6 → A7 → A8 → A9 → A10 → A11 → A12 → A13 → A14 → A15 → A16 → A17 → A18 → A19 → A20 → A21 → A22 → A23 → A24 → A25 → A26 → Option (String ⊕ ρ)} {r : String ⊕ ρ} (h : bx26 x k = some r) : ∃ Rr : String ⊕ (A1 × A2 × A3 × A4 × A5 × A6 × A7 × A8 × A9 × A10 × A11 × A12 × A13 × A14 × A15 × A16 × A17 × A18 × A19 × A20 × A21 × A22 × A23 × A24 × A25 × A26), x = some Rr ∧ (∀ E, Rr = .inl E → r = .inl E) ∧ (∀ (x1 : A1) (x2 : A2) (x3 : A3) (x4 : A4) (x5 : A5) (x6 : A6) (x7 : A7) (x8 : A8) (x9 : A9) (x10 : A10) (x11 : A11) (x12 : A12) (x13 : A13) (x14 : A14) (x15 : A15) (x16 : A16) (x17 : A17) (x18 : A18) (x19 : A19) (x20 : A20) (x21 : A21) (x22 : A22) (x23 : A23) (x24 : A24) (x25 : A25) (x26 : A26), Rr = .inr (x1, x2, x3, x4, x5, x6, x7, x8, x9, x10, x11, x12, x13, x14, x15, x16, x17, x18, x19, x20, x21, x22, x23, x24, x25, x26) → k x1 x2 x3 x4 x5 x6 x7 x8 x9 x10 x11 x12 x13 x14 x15 x16 x17 x18 x19 x20 x21 x22 x23 x24 x25 x26 = some r) := by
  cases x with
  | none => cases h
  | some R =>
    refine ⟨R, rfl, fun E hE => ?_, fun x1 x2 x3 x4 x5 x6 x7 x8 x9 x10 x11 x12 x13 x14 x15 x16 x17 x18 x19 x20 x21 x22 x23 x24 x25 x26 hu => ?_⟩
    · subst hE; exact (Option.some.inj h).symm
    · subst hu; exact h
theorem go_RX4_125 (ik : Nat) : ∀ w ∈ Cond.classLink RX4 ik "java/lang/IndexOutOfBoundsException" :: Cond.initialized "java/lang/IndexOutOfBoundsException" :: vx_atS RX4 125 "java/lang/IndexOutOfBoundsException" ["java/lang/RuntimeException", "java/lang/Exception"], vx_ot w = true := List.forall_mem_cons.mpr ⟨rfl, by decide +kernel⟩
theorem go_RX4_70 (ik : Nat) : ∀ w ∈ Cond.classLink RX4 ik "java/lang/IllegalArgumentException" :: Cond.initialized "java/lang/IllegalArgumentException" :: vx_atS RX4 70 "java/lang/IllegalArgumentException" ["java/lang/RuntimeException", "java/lang/Exception"], vx_ot w = true := List.forall_mem_cons.mpr ⟨rfl, by decide +kernel⟩
theorem go_RX4_56 (ik : Nat) : ∀ w ∈ Cond.classLink RX4 ik "java/lang/IllegalStateException" :: Cond.initialized "java/lang/IllegalStateException" :: vx_atS RX4 56 "java/lang/IllegalStateException" ["java/lang/RuntimeException", "java/lang/Exception"], vx_ot w = true := List.forall_mem_cons.mpr ⟨rfl, by decide +kernel⟩
theorem go_RX4_225 (ik : Nat) : ∀ w ∈ Cond.classLink RX4 ik "java/util/NoSuchElementException" :: Cond.initialized "java/util/NoSuchElementException" :: vx_atS RX4 225 "java/util/NoSuchElementException" ["java/lang/RuntimeException", "java/lang/Exception"], vx_ot w = true := List.forall_mem_cons.mpr ⟨rfl, by decide +kernel⟩
theorem nb_RX4_125 : ∀ w ∈ (vx_atS RX4 125 "java/lang/IndexOutOfBoundsException" ["java/lang/RuntimeException", "java/lang/Exception"]).filter (fun w => !goodWord w), w ∈ nW := by decide +kernel
theorem nb_RX4_70 : ∀ w ∈ (vx_atS RX4 70 "java/lang/IllegalArgumentException" ["java/lang/RuntimeException", "java/lang/Exception"]).filter (fun w => !goodWord w), w ∈ nW := by decide +kernel
theorem nb_RX4_56 : ∀ w ∈ (vx_atS RX4 56 "java/lang/IllegalStateException" ["java/lang/RuntimeException", "java/lang/Exception"]).filter (fun w => !goodWord w), w ∈ nW := by decide +kernel
theorem nb_RX4_225 : ∀ w ∈ (vx_atS RX4 225 "java/util/NoSuchElementException" ["java/lang/RuntimeException", "java/lang/Exception"]).filter (fun w => !goodWord w), w ∈ nW := by decide +kernel
