/-! static methods that write; law's own methods that return; a join without a number; the script's cell -/
def jn0 {ρ : Type} (rest : Option ρ) (body : Option ρ → Option ρ) : Option ρ := body rest
theorem jn0_e {ρ : Type} {rest : Option ρ} {body : Option ρ → Option ρ} {r : ρ} {G : Prop} (J : Prop) (h : jn0 rest body = some r) (hJ : rest = some r → J) (hB : ∀ g : Option ρ, (g = some r → J) → body g = some r → G) : G := hB rest hJ h
section ZS
variable {p : Program} {l : Launch} {e : Env} {R : Room} {s : State} {m : MethodId} {args : Array Value} {below : List Frame} {meth : Method} {c : Code} {H : Heap} {locs : List Loc} {cells slots : Nat} {Q : State → Prop}
variable {pc : Nat} {ls : Array Slot} {rest st0 : List Value} {a : Array Value} {mc ms : Nat}
variable {y : MethodName} {bytes cc : ByteArray} {maxL nL n index : Nat} {ret : Option FieldType} {ws : List Cond} {rm : Room} {Ts : List Cond} {own C : String} {b : Addr} {As : List Value} {D : va_G} {cI cZ cL : ClassId} {wc wt wr w1 wt' : va_W} {val : Int32} {A0 : Nat → Prop} {H0 : Heap} {rv : Option Value}
theorem zz_mS (S : CallFix p m c cc nL s args Ts own) (hM : Met l y ws rm (PM D cI cZ cL As wc H.size) (QM D rv (va_A wc H.size) w1) mc ms (va_A wc H.size)) (cw : CallB R s args own index y bytes maxL ret ws rm mc ms n ∧ (Cond.static y).before args s = true)
    (hP : va_P D vwCl wt H) (hD : va_D A0 wt) (hS : va_S A0 H0 H locs) (hA : ∀ q, H0.size ≤ q → A0 q) (hK : K0 D cI cZ cL s) (isC isR isP : List Nat) (hC : isC.map (fun i => wt[i]?) = wc.map some) (hR : isR.map (fun i => wt[i]?) = wr.map some) (hn : va_nd isR = true) (hdis : ∀ i ∈ isR, i ∉ isC) (hp : isP.map (fun i => (wr ++ w1)[i]?) = wt'.map some) (hpn : va_nd isP = true) (hcn : va_nd isC = true)
    (hna : As.length = n) (hsize : ls.size = nL) (hst : st0 = As.reverse ++ rest) (hW : (rest.map fun v => v.category).sum ≤ 8)
    (hdg : decode cc pc = .ok (.invokestatic index, 3)) (hf : cells + mc ≤ R.cells ∧ slots + ms ≤ R.slots)
    (kk : ∀ (H1 : Heap) (locs1 : List Loc), va_P D vwCl wt' H1 → va_D A0 wt' → va_S A0 H0 H1 locs1 → H.size ≤ H1.size → W p l e R s m args below meth c H1 locs1 (cells + mc) (slots + ms) Q (F0 m (pc + 3) ls (rv.toList ++ rest))) : W p l e R s m args below meth c H locs cells slots Q (F0 m pc ls st0) :=
  zz_m (va_runS S hM cw ⟨PM_blind, fun U hU hW => ⟨rfl, by rw [hU], by rw [hU]; exact hP.sub isC (zz_fm hC), hK.warm hW, (hD.sub isC hcn hC).weaken (fun _ _ _ _ => trivial)⟩⟩ rfl hna hsize hst (lv_room hW) hdg hf) hP hD hS hA isC isR isP hC hR hn hdis hp hpn kk
theorem zz_hP (S : CallFix p m c cc nL s args Ts own) (hM : Met l y ws rm (PH D cI cZ cL As wc H.size) (QM D rv (va_A wc H.size) w1) mc ms (va_A wc H.size)) (cw : CallB R s args own index y bytes maxL ret ws rm mc ms n ∧ (Cond.static y).before args s = true)
    (hP : va_P D vwCl wt H) (hD : va_D A0 wt) (hS : va_S A0 s.heap H locs) (hA : ∀ q, s.heap.size ≤ q → A0 q) (hK : K0 D cI cZ cL s) (hKS : KS s) (hKZ : KZ A0 s s.heap) (hKX : KX s) (isC isR isP : List Nat) (hC : isC.map (fun i => wt[i]?) = wc.map some) (hR : isR.map (fun i => wt[i]?) = wr.map some) (hn : va_nd isR = true) (hdis : ∀ i ∈ isR, i ∉ isC) (hp : isP.map (fun i => (wr ++ w1)[i]?) = wt'.map some) (hpn : va_nd isP = true) (hcn : va_nd isC = true)
    (hna : As.length = n) (hsize : ls.size = nL) (hst : st0 = As.reverse ++ rest) (hW : (rest.map fun v => v.category).sum ≤ 8)
    (hdg : decode cc pc = .ok (.invokestatic index, 3)) (hf : cells + mc ≤ R.cells ∧ slots + ms ≤ R.slots)
    (kk : ∀ (H1 : Heap) (locs1 : List Loc), va_P D vwCl wt' H1 → va_D A0 wt' → va_S A0 s.heap H1 locs1 → H.size ≤ H1.size → W p l e R s m args below meth c H1 locs1 (cells + mc) (slots + ms) Q (F0 m (pc + 3) ls (rv.toList ++ rest))) : W p l e R s m args below meth c H locs cells slots Q (F0 m pc ls st0) :=
  zz_m (va_runS S hM cw ⟨PH_blind, fun U hU hW => ⟨rfl, by rw [hU], by rw [hU]; exact hP.sub isC (zz_fm hC), hK.warm hW, (hD.sub isC hcn hC).weaken (fun _ _ _ _ => trivial), hKS.warm hW, by rw [hU]; exact ((hKZ.kept (fun q h1 h2 => hS.2.1 q h1 h2)).narrow (va_free (wc := wc) hD hS hA isC hC)).moved hW.alike, hKX.moved hW.alike⟩⟩ rfl hna hsize hst (lv_room hW) hdg hf) hP hD hS hA isC isR isP hC hR hn hdis hp hpn kk
end ZS
/-- the script's cell -/
def PX (D : va_G) (cI cZ cL : ClassId) (av : List Value) (b L : Nat) (xs : Nat → Int32) : Array Value → State → Prop := va_Pc av (fun U => va_X b L xs U U.heap ∧ K0 D cI cZ cL U)
theorem PX_blind {D : va_G} {cI cZ cL : ClassId} {av : List Value} {b L : Nat} {xs : Nat → Int32} : FrameBlind (PX D cI cZ cL av b L xs) := fun _ U g mk q => ⟨q.1, va_X.moved (u := U) (U := U.calling g mk _) (Vm.Alike.refl U.vm) q.2.1, q.2.2.calling⟩
section ZCL
variable {p : Program} {l : Launch} {e : Env} {R : Room} {s : State} {m : MethodId} {args : Array Value} {below : List Frame} {meth : Method} {c : Code} {H : Heap} {locs : List Loc} {cells slots : Nat} {Q : State → Prop}
variable {pc : Nat} {ls : Array Slot} {rest st0 : List Value}
variable {y : MethodName} {bytes cc : ByteArray} {maxL nL n index : Nat} {ret : Option FieldType} {ws : List Cond} {rm : Room} {Ts : List Cond} {own : String} {As : List Value} {D : va_G} {cI cZ cL : ClassId} {val : Int32} {b L : Nat} {xs : Nat → Int32}
theorem zz_cell (S : CallFix p m c cc nL s args Ts own) (hM : Met l y ws rm (PX D cI cZ cL As b L xs) (vp_Si (fun r => r = val)) 0 0 (fun _ => False)) (cw : CallB R s args own index y bytes maxL ret ws rm 0 0 n ∧ (Cond.static y).before args s = true)
    (hX : va_X b L xs s H) (hK : K0 D cI cZ cL s) (hn : As.length = n) (hsize : ls.size = nL) (hst : st0 = As.reverse ++ rest) (hW : (rest.map fun v => v.category).sum ≤ 8)
    (hdg : decode cc pc = .ok (.invokestatic index, 3)) (hf : cells ≤ R.cells ∧ slots ≤ R.slots) (kk : W p l e R s m args below meth c H locs cells slots Q (F0 m (pc + 3) ls (.int val :: rest))) : W p l e R s m args below meth c H locs cells slots Q (F0 m pc ls st0) :=
  zz_i (va_runS S hM cw ⟨PX_blind, fun U hU hW => ⟨rfl, by rw [hU]; exact hX.moved hW.alike, hK.warm hW⟩⟩ rfl hn hsize hst (lv_room hW) hdg hf) kk
end ZCL
def fL_cell (N L : Nat) (xs : Nat → Int32) (p1 : Int32) : Option Int32 := (if nI L ≤ p1 then some (1138341873 * (p1 + 6)) else gin p1 L (some (xs p1.toNatClampNeg)))
abbrev rmL_cell : Room := { frames := 0, cells := 0, slots := 0, locals := 0 }
set_option maxRecDepth 100000 in
theorem lkL_cell_0 : (.constant RL 7 (1138341873) : Cond) ∈ wsL_cell := by decide +kernel
set_option maxHeartbeats 4000000 in
set_option maxRecDepth 100000 in
theorem kL_cell (l : Launch) (D : va_G) (cI cZ cL : ClassId) (b L : Nat) (xs : Nat → Int32) (p1 : Int32) (N : Nat) {r : Int32} (h : fL_cell N L xs p1 = some r) : Met l yL_cell wsL_cell rmL_cell (PX D cI cZ cL [.ref b, .int p1] b L xs) (vp_Si (fun z => z = r)) 0 0 (fun _ => False) := by
  refine Met.ofW (cc := cL_cell) (maxL := 2) (ret := (some .int)) (by decide) rfl ?_
  intro p e s m args below meth c s₁ B hml hv
  obtain ⟨rfl, hX, hKK⟩ := hv
  have hK := hKK.1
  have hx := B.exec
  have hb := B.bytes
  have hr := B.returns
  have hts := atoms_spec (ws := wsL_cell) B.pre
  have hown : s.vm.findClass RL = some m.cls := findClass_of_methodNamed B.named
  have hlocks := B.notSynchronized
  have hbl : b < s.heap.size := by
    obtain ⟨scr, h1, -⟩ := hX
    exact (Array.getElem?_eq_some_iff.mp h1).1
  obtain ⟨A, hA0⟩ : ∃ A : Nat → Prop, A = fun _ => False := ⟨_, rfl⟩
  have hbA : ¬ A b := by rw [hA0]; exact fun h => h
  have hS : va_S A s.heap s.heap [] := va_S.rf
  have hl := lv_entry ([.ref b, .int p1]) (n := 2) (Nat.le_of_ble_eq_true rfl)
  rw [lg_entry_eq]
  generalize (lg_sl ([.ref b, .int p1]) ++ List.replicate (2 - (lg_sl ([.ref b, .int p1])).length) Slot.unset).toArray = ls at hl ⊢
  have hl : lv_has ls 2 [(0, .ref b), (1, .int p1)] := hl
  obtain ⟨QQ, hQQ⟩ : ∃ Z, Z = MQ below (vp_Si (fun z => z = r)) ([.ref b, .int p1] : List Value).toArray s 0 0 (fun _ => False) := ⟨_, rfl⟩
  rw [← hQQ]
  unfold fL_cell at h
  refine lv_iload_n hx hb dL_cell_0 rfl (lv_at hl 1 rfl) ?_
  refine lv_aload_n hx hb dL_cell_1 rfl (lv_at hl 0 rfl) ?_
  refine va_slen hx hb hX hbl hbA hS dL_cell_2 ?_
  refine lv_icmp_ge (tgt := 12) hx hb dL_cell_3 (by decide) (fun c1 => ?_) (fun c1 => ?_)
  · have h := it_t h c1
    refine lv_ldc hx hb hown (hts _ lkL_cell_0) dL_cell_12 ?_
    refine lv_iload_n hx hb dL_cell_14 rfl (lv_at hl 1 rfl) ?_
    refine lv_bipush (v := 6) hx hb dL_cell_15 (by decide) ?_
    refine lv_iadd hx hb dL_cell_17 ?_
    refine lv_imul hx hb dL_cell_18 ?_
    rw [hQQ]
    exact W.iret (v := 1138341873 * (p1 + 6)) hx hb hr (fun t ht hW => ⟨_, rfl, Option.some.inj h, ht⟩) (fun q hq => absurd hq List.not_mem_nil) dL_cell_19
  · have h := it_f h c1
    obtain ⟨hi, h⟩ := gin_e h
    refine lv_aload_n hx hb dL_cell_6 rfl (lv_at hl 0 rfl) ?_
    refine lv_iload_n hx hb dL_cell_7 rfl (lv_at hl 1 rfl) ?_
    refine va_sld hx hb hX hbl hbA hS hi dL_cell_8 ?_
    refine lv_goto (tgt := 19) hx hb dL_cell_9 (by decide) ?_
    rw [hQQ]
    exact W.iret (v := xs p1.toNatClampNeg) hx hb hr (fun t ht hW => ⟨_, rfl, Option.some.inj h, ht⟩) (fun q hq => absurd hq List.not_mem_nil) dL_cell_19
