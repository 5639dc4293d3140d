set_option maxRecDepth 100000 in
theorem inX0_init_X0 : ∀ w ∈ wsX00, w ∈ wsX0_init := by decide +kernel
set_option maxRecDepth 100000 in
theorem lkX0_init_0 : (.methodLink RX0 1 objectInit : Cond) ∈ wsX0_init := by decide +kernel
set_option maxRecDepth 100000 in
theorem lkX0_init_1 : (.instanceMethod objectInit : Cond) ∈ wsX0_init := by decide +kernel
set_option maxRecDepth 100000 in
theorem lkX0_init_2 : (.arrayClass .int : Cond) ∈ wsX0_init := by decide +kernel
set_option maxRecDepth 100000 in
theorem lkX0_init_3 : (.fieldLink RX0 7 "Switchlog$ActRow" "acts" "[I" : Cond) ∈ wsX0_init := by decide +kernel
abbrev rmX0_init (rn : Nat) : Room := { frames := 1, cells := 1, slots := rn, locals := 12 }
set_option maxHeartbeats 4000000 in
set_option maxRecDepth 100000 in
theorem kX0_init (l : Launch) (D : va_G) (cI cZ cL : ClassId) (sz0 : Nat) (h0 : Nat) (p0 : Int32) (rn : Nat) (hn0 : ¬ p0 < 0) (hN0 : p0.toNatClampNeg = rn) (hb0 : rn * 4 ≤ 536870912) : Met l yX0_init wsX0_init (rmX0_init rn) (PM D cI cZ cL [.ref h0, .int p0] [(h0, .inr (0, [.null, .int 0]))] sz0) (QC D (va_A [(h0, .inr (0, [.null, .int 0]))] sz0) (fun u : Nat => [(h0, .inr (0, [.ref u, .int 0])), (u, .inl (cI, rn, .inl (fun _ => 0)))])) 1 rn (va_A [(h0, .inr (0, [.null, .int 0]))] sz0) := by
  refine Met.ofW (cc := cX0_init) (maxL := 2) (ret := none) (by decide) rfl ?_
  intro p e s m args below meth c s₁ B hml hv
  obtain ⟨rfl, hsz, hP, hKK, hD0⟩ := hv
  have hK := hKK.1
  have hx := B.exec
  have hb := B.bytes
  have hr := B.returns
  have hts := atoms_spec (ws := wsX0_init) B.pre
  have hown : s.vm.findClass RX0 = some m.cls := findClass_of_methodNamed B.named
  have hlocks := B.notSynchronized
  have hin : meth.name = "<init>" := (name_of_methodNamed B.named B.method).1
  subst hsz
  have hD := hD0.self (sz := s.heap.size)
  generalize hAe : va_A [(h0, .inr (0, [.null, .int 0]))] s.heap.size = A at hD ⊢
  have hA : ∀ q : Nat, s.heap.size ≤ q → A q := fun q h => by rw [← hAe]; exact Or.inr h
  have hS : va_S A s.heap s.heap [] := va_S.rf
  have hl := lv_entry ([.ref h0, .int p0]) (n := 2) (Nat.le_of_ble_eq_true rfl)
  rw [lg_entry_eq]
  generalize (lg_sl ([.ref h0, .int p0]) ++ List.replicate (2 - (lg_sl ([.ref h0, .int p0])).length) Slot.unset).toArray = ls at hl ⊢
  have hl : lv_has ls 2 [(0, .ref h0), (1, .int p0)] := hl
  have hP : va_P D vwCl [(h0, .inr (0, [.null, .int 0]))] s.heap := hP
  refine lv_aload_n hx hb dX0_init_0 rfl (lv_at hl 0 rfl) ?_
  refine W.objInit hx hb hown (hts _ lkX0_init_0) (hts _ lkX0_init_1) (hts _ (List.mem_of_getElem? (l := wsX0_init) (i := 3) rfl)) rfl (by rw [hml]; exact hl.1) rfl dX0_init_1 (Nat.le_of_ble_eq_true rfl) (Nat.le_of_ble_eq_true rfl) ?_
  refine W.eq (g2 := F0 m 4 ls []) rfl ?_
  refine lv_aload_n hx hb dX0_init_4 rfl (lv_at hl 0 rfl) ?_
  refine lv_iload_n hx hb dX0_init_5 rfl (lv_at hl 1 rfl) ?_
  refine zz_newI (N' := rn) hx hb (hts _ lkX0_init_2) hK 0 rfl hP hD hS hA hn0 hN0 hb0 (Nat.le_of_ble_eq_true rfl) (by show 0 + rn ≤ rn; omega) dX0_init_6 (fun q1 H hP hD hS => ?_)
  have hP : va_P D vwCl [(h0, .inr (0, [.null, .int 0])), (q1, .inl (cI, rn, .inl (fun _ => 0)))] H := hP
  have hD : va_D A [(h0, .inr (0, [.null, .int 0])), (q1, .inl (cI, rn, .inl (fun _ => 0)))] := hD
  refine va_putF (D := D) (ci := 0) (v := .ref q1) (ty := .array .int) (C := RX0) (T := TX0) (N := 2) hx hb hts inX0_init_X0 tyX0 tyX0_ok nmX0 hown hK hP hD hS 0 rfl rfl 0 (by decide) (hts _ lkX0_init_3) (fun _ h9 => h9) rfl hin rfl (by decide +kernel) rfl rfl (Nat.le_of_ble_eq_true rfl) dX0_init_8 (fun H locs hP hD hS => ?_)
  have hP : va_P D vwCl [(h0, .inr (0, [.ref q1, .int 0])), (q1, .inl (cI, rn, .inl (fun _ => 0)))] H := hP
  have hD : va_D A [(h0, .inr (0, [.ref q1, .int 0])), (q1, .inl (cI, rn, .inl (fun _ => 0)))] := hD
  refine W.widen (k := 1) (n := rn) (Nat.le_of_ble_eq_true rfl) (by show 0 + rn ≤ rn; omega) ?_
  exact W.vret hx hb hr (fun t ht hW => ⟨rfl, q1, by rw [ht]; exact hP, hD, hS.F ht⟩) hS.2.2 dX0_init_11

set_option maxRecDepth 100000 in
theorem inX1_init_X1 : ∀ w ∈ wsX10, w ∈ wsX1_init := by decide +kernel
set_option maxRecDepth 100000 in
theorem lkX1_init_0 : (.methodLink RX1 3 objectInit : Cond) ∈ wsX1_init := by decide +kernel
set_option maxRecDepth 100000 in
theorem lkX1_init_1 : (.instanceMethod objectInit : Cond) ∈ wsX1_init := by decide +kernel
set_option maxRecDepth 100000 in
theorem lkX1_init_2 : (.arrayClass .int : Cond) ∈ wsX1_init := by decide +kernel
set_option maxRecDepth 100000 in
theorem lkX1_init_3 : (.fieldLink RX1 9 "Switchlog$Net" "ends" "[I" : Cond) ∈ wsX1_init := by decide +kernel
abbrev rmX1_init : Room := { frames := 1, cells := 1, slots := 24, locals := 12 }
set_option maxHeartbeats 4000000 in
set_option maxRecDepth 100000 in
theorem kX1_init (l : Launch) (D : va_G) (cI cZ cL : ClassId) (sz0 : Nat) (h0 : Nat) : Met l yX1_init wsX1_init rmX1_init (PM D cI cZ cL [.ref h0] [(h0, .inr (1, [.null, .int 0, .int 0, .int 0, .int 0, .int 0]))] sz0) (QC D (va_A [(h0, .inr (1, [.null, .int 0, .int 0, .int 0, .int 0, .int 0]))] sz0) (fun u : Nat => [(h0, .inr (1, [.ref u, .int 0, .int 0, .int 0, .int 0, .int 0])), (u, .inl (cI, 24, .inl (fun _ => 0)))])) 1 24 (va_A [(h0, .inr (1, [.null, .int 0, .int 0, .int 0, .int 0, .int 0]))] sz0) := by
  refine Met.ofW (cc := cX1_init) (maxL := 1) (ret := none) (by decide) rfl ?_
  intro p e s m args below meth c s₁ B hml hv
  obtain ⟨rfl, hsz, hP, hKK, hD0⟩ := hv
  have hK := hKK.1
  have hx := B.exec
  have hb := B.bytes
  have hr := B.returns
  have hts := atoms_spec (ws := wsX1_init) B.pre
  have hown : s.vm.findClass RX1 = some m.cls := findClass_of_methodNamed B.named
  have hlocks := B.notSynchronized
  have hin : meth.name = "<init>" := (name_of_methodNamed B.named B.method).1
  subst hsz
  have hD := hD0.self (sz := s.heap.size)
  generalize hAe : va_A [(h0, .inr (1, [.null, .int 0, .int 0, .int 0, .int 0, .int 0]))] s.heap.size = A at hD ⊢
  have hA : ∀ q : Nat, s.heap.size ≤ q → A q := fun q h => by rw [← hAe]; exact Or.inr h
  have hS : va_S A s.heap s.heap [] := va_S.rf
  have hl := lv_entry ([.ref h0]) (n := 1) (Nat.le_of_ble_eq_true rfl)
  rw [lg_entry_eq]
  generalize (lg_sl ([.ref h0]) ++ List.replicate (1 - (lg_sl ([.ref h0])).length) Slot.unset).toArray = ls at hl ⊢
  have hl : lv_has ls 1 [(0, .ref h0)] := hl
  have hP : va_P D vwCl [(h0, .inr (1, [.null, .int 0, .int 0, .int 0, .int 0, .int 0]))] s.heap := hP
  refine lv_aload_n hx hb dX1_init_0 rfl (lv_at hl 0 rfl) ?_
  refine W.objInit hx hb hown (hts _ lkX1_init_0) (hts _ lkX1_init_1) (hts _ (List.mem_of_getElem? (l := wsX1_init) (i := 3) rfl)) rfl (by rw [hml]; exact hl.1) rfl dX1_init_1 (Nat.le_of_ble_eq_true rfl) (Nat.le_of_ble_eq_true rfl) ?_
  refine W.eq (g2 := F0 m 4 ls []) rfl ?_
  refine lv_aload_n hx hb dX1_init_4 rfl (lv_at hl 0 rfl) ?_
  refine lv_bipush (v := 24) hx hb dX1_init_5 (by decide) ?_
  refine zz_newI (N' := 24) hx hb (hts _ lkX1_init_2) hK 0 rfl hP hD hS hA (by decide) (by decide) (by decide) (Nat.le_of_ble_eq_true rfl) (Nat.le_of_ble_eq_true rfl) dX1_init_7 (fun q1 H hP hD hS => ?_)
  have hP : va_P D vwCl [(h0, .inr (1, [.null, .int 0, .int 0, .int 0, .int 0, .int 0])), (q1, .inl (cI, 24, .inl (fun _ => 0)))] H := hP
  have hD : va_D A [(h0, .inr (1, [.null, .int 0, .int 0, .int 0, .int 0, .int 0])), (q1, .inl (cI, 24, .inl (fun _ => 0)))] := hD
  refine va_putF (D := D) (ci := 1) (v := .ref q1) (ty := .array .int) (C := RX1) (T := TX1) (N := 6) hx hb hts inX1_init_X1 tyX1 tyX1_ok nmX1 hown hK hP hD hS 0 rfl rfl 0 (by decide) (hts _ lkX1_init_3) (fun _ h9 => h9) rfl hin rfl (by decide +kernel) rfl rfl (Nat.le_of_ble_eq_true rfl) dX1_init_9 (fun H locs hP hD hS => ?_)
  have hP : va_P D vwCl [(h0, .inr (1, [.ref q1, .int 0, .int 0, .int 0, .int 0, .int 0])), (q1, .inl (cI, 24, .inl (fun _ => 0)))] H := hP
  have hD : va_D A [(h0, .inr (1, [.ref q1, .int 0, .int 0, .int 0, .int 0, .int 0])), (q1, .inl (cI, 24, .inl (fun _ => 0)))] := hD
  refine W.widen (k := 1) (n := 24) (Nat.le_of_ble_eq_true rfl) (Nat.le_of_ble_eq_true rfl) ?_
  exact W.vret hx hb hr (fun t ht hW => ⟨rfl, q1, by rw [ht]; exact hP, hD, hS.F ht⟩) hS.2.2 dX1_init_12

set_option maxRecDepth 100000 in
theorem inX2_init_X2 : ∀ w ∈ wsX20, w ∈ wsX2_init := by decide +kernel
set_option maxRecDepth 100000 in
theorem lkX2_init_0 : (.methodLink RX2 3 objectInit : Cond) ∈ wsX2_init := by decide +kernel
set_option maxRecDepth 100000 in
theorem lkX2_init_1 : (.instanceMethod objectInit : Cond) ∈ wsX2_init := by decide +kernel
set_option maxRecDepth 100000 in
theorem lkX2_init_2 : (.arrayClass .int : Cond) ∈ wsX2_init := by decide +kernel
set_option maxRecDepth 100000 in
theorem lkX2_init_3 : (.fieldLink RX2 9 "Switchlog$Permits" "holds" "[I" : Cond) ∈ wsX2_init := by decide +kernel
abbrev rmX2_init : Room := { frames := 1, cells := 1, slots := 10, locals := 12 }
set_option maxHeartbeats 4000000 in
set_option maxRecDepth 100000 in
theorem kX2_init (l : Launch) (D : va_G) (cI cZ cL : ClassId) (sz0 : Nat) (h0 : Nat) : Met l yX2_init wsX2_init rmX2_init (PM D cI cZ cL [.ref h0] [(h0, .inr (2, [.null, .int 0]))] sz0) (QC D (va_A [(h0, .inr (2, [.null, .int 0]))] sz0) (fun u : Nat => [(h0, .inr (2, [.ref u, .int 0])), (u, .inl (cI, 10, .inl (fun _ => 0)))])) 1 10 (va_A [(h0, .inr (2, [.null, .int 0]))] sz0) := by
  refine Met.ofW (cc := cX2_init) (maxL := 1) (ret := none) (by decide) rfl ?_
  intro p e s m args below meth c s₁ B hml hv
  obtain ⟨rfl, hsz, hP, hKK, hD0⟩ := hv
  have hK := hKK.1
  have hx := B.exec
  have hb := B.bytes
  have hr := B.returns
  have hts := atoms_spec (ws := wsX2_init) B.pre
  have hown : s.vm.findClass RX2 = some m.cls := findClass_of_methodNamed B.named
  have hlocks := B.notSynchronized
  have hin : meth.name = "<init>" := (name_of_methodNamed B.named B.method).1
  subst hsz
  have hD := hD0.self (sz := s.heap.size)
  generalize hAe : va_A [(h0, .inr (2, [.null, .int 0]))] s.heap.size = A at hD ⊢
  have hA : ∀ q : Nat, s.heap.size ≤ q → A q := fun q h => by rw [← hAe]; exact Or.inr h
  have hS : va_S A s.heap s.heap [] := va_S.rf
  have hl := lv_entry ([.ref h0]) (n := 1) (Nat.le_of_ble_eq_true rfl)
  rw [lg_entry_eq]
  generalize (lg_sl ([.ref h0]) ++ List.replicate (1 - (lg_sl ([.ref h0])).length) Slot.unset).toArray = ls at hl ⊢
  have hl : lv_has ls 1 [(0, .ref h0)] := hl
  have hP : va_P D vwCl [(h0, .inr (2, [.null, .int 0]))] s.heap := hP
  refine lv_aload_n hx hb dX2_init_0 rfl (lv_at hl 0 rfl) ?_
  refine W.objInit hx hb hown (hts _ lkX2_init_0) (hts _ lkX2_init_1) (hts _ (List.mem_of_getElem? (l := wsX2_init) (i := 3) rfl)) rfl (by rw [hml]; exact hl.1) rfl dX2_init_1 (Nat.le_of_ble_eq_true rfl) (Nat.le_of_ble_eq_true rfl) ?_
  refine W.eq (g2 := F0 m 4 ls []) rfl ?_
  refine lv_aload_n hx hb dX2_init_4 rfl (lv_at hl 0 rfl) ?_
  refine lv_bipush (v := 10) hx hb dX2_init_5 (by decide) ?_
  refine zz_newI (N' := 10) hx hb (hts _ lkX2_init_2) hK 0 rfl hP hD hS hA (by decide) (by decide) (by decide) (Nat.le_of_ble_eq_true rfl) (Nat.le_of_ble_eq_true rfl) dX2_init_7 (fun q1 H hP hD hS => ?_)
  have hP : va_P D vwCl [(h0, .inr (2, [.null, .int 0])), (q1, .inl (cI, 10, .inl (fun _ => 0)))] H := hP
  have hD : va_D A [(h0, .inr (2, [.null, .int 0])), (q1, .inl (cI, 10, .inl (fun _ => 0)))] := hD
  refine va_putF (D := D) (ci := 2) (v := .ref q1) (ty := .array .int) (C := RX2) (T := TX2) (N := 2) hx hb hts inX2_init_X2 tyX2 tyX2_ok nmX2 hown hK hP hD hS 0 rfl rfl 0 (by decide) (hts _ lkX2_init_3) (fun _ h9 => h9) rfl hin rfl (by decide +kernel) rfl rfl (Nat.le_of_ble_eq_true rfl) dX2_init_9 (fun H locs hP hD hS => ?_)
  have hP : va_P D vwCl [(h0, .inr (2, [.ref q1, .int 0])), (q1, .inl (cI, 10, .inl (fun _ => 0)))] H := hP
  have hD : va_D A [(h0, .inr (2, [.ref q1, .int 0])), (q1, .inl (cI, 10, .inl (fun _ => 0)))] := hD
  refine W.widen (k := 1) (n := 10) (Nat.le_of_ble_eq_true rfl) (Nat.le_of_ble_eq_true rfl) ?_
  exact W.vret hx hb hr (fun t ht hW => ⟨rfl, q1, by rw [ht]; exact hP, hD, hS.F ht⟩) hS.2.2 dX2_init_12

set_option maxRecDepth 100000 in
theorem lkX3_init_0 : (.methodLink RX3 3 objectInit : Cond) ∈ wsX3_init := by decide +kernel
set_option maxRecDepth 100000 in
theorem lkX3_init_1 : (.instanceMethod objectInit : Cond) ∈ wsX3_init := by decide +kernel
abbrev rmX3_init : Room := { frames := 1, cells := 0, slots := 0, locals := 12 }
set_option maxHeartbeats 4000000 in
set_option maxRecDepth 100000 in
theorem kX3_init (l : Launch) (D : va_G) (cI cZ cL : ClassId) (sz0 : Nat) (h0 : Nat) : Met l yX3_init wsX3_init rmX3_init (PM D cI cZ cL [.ref h0] [(h0, .inr (3, [.int 0, .int 0, .int 0]))] sz0) (QC D (va_A [(h0, .inr (3, [.int 0, .int 0, .int 0]))] sz0) (fun u : Unit => [(h0, .inr (3, [.int 0, .int 0, .int 0]))])) 0 0 (va_A [(h0, .inr (3, [.int 0, .int 0, .int 0]))] sz0) := by
  refine Met.ofW (cc := cX3_init) (maxL := 1) (ret := none) (by decide) rfl ?_
  intro p e s m args below meth c s₁ B hml hv
  obtain ⟨rfl, hsz, hP, hKK, hD0⟩ := hv
  have hK := hKK.1
  have hx := B.exec
  have hb := B.bytes
  have hr := B.returns
  have hts := atoms_spec (ws := wsX3_init) B.pre
  have hown : s.vm.findClass RX3 = some m.cls := findClass_of_methodNamed B.named
  have hlocks := B.notSynchronized
  have hin : meth.name = "<init>" := (name_of_methodNamed B.named B.method).1
  subst hsz
  have hD := hD0.self (sz := s.heap.size)
  generalize hAe : va_A [(h0, .inr (3, [.int 0, .int 0, .int 0]))] s.heap.size = A at hD ⊢
  have hA : ∀ q : Nat, s.heap.size ≤ q → A q := fun q h => by rw [← hAe]; exact Or.inr h
  have hS : va_S A s.heap s.heap [] := va_S.rf
  have hl := lv_entry ([.ref h0]) (n := 1) (Nat.le_of_ble_eq_true rfl)
  rw [lg_entry_eq]
  generalize (lg_sl ([.ref h0]) ++ List.replicate (1 - (lg_sl ([.ref h0])).length) Slot.unset).toArray = ls at hl ⊢
  have hl : lv_has ls 1 [(0, .ref h0)] := hl
  have hP : va_P D vwCl [(h0, .inr (3, [.int 0, .int 0, .int 0]))] s.heap := hP
  refine lv_aload_n hx hb dX3_init_0 rfl (lv_at hl 0 rfl) ?_
  refine W.objInit hx hb hown (hts _ lkX3_init_0) (hts _ lkX3_init_1) (hts _ (List.mem_of_getElem? (l := wsX3_init) (i := 3) rfl)) rfl (by rw [hml]; exact hl.1) rfl dX3_init_1 (Nat.le_of_ble_eq_true rfl) (Nat.le_of_ble_eq_true rfl) ?_
  refine W.eq (g2 := F0 m 4 ls []) rfl ?_
  refine W.widen (k := 0) (n := 0) (Nat.le_of_ble_eq_true rfl) (Nat.le_of_ble_eq_true rfl) ?_
  exact W.vret hx hb hr (fun t ht hW => ⟨rfl, (), by rw [ht]; exact hP, hD, hS.F ht⟩) hS.2.2 dX3_init_4

set_option maxRecDepth 100000 in
theorem inX4_init_X0 : ∀ w ∈ wsX00, w ∈ wsX4_init := by decide +kernel
set_option maxRecDepth 100000 in
theorem inX4_init_X1 : ∀ w ∈ wsX10, w ∈ wsX4_init := by decide +kernel
set_option maxRecDepth 100000 in
theorem inX4_init_X2 : ∀ w ∈ wsX20, w ∈ wsX4_init := by decide +kernel
set_option maxRecDepth 100000 in
theorem inX4_init_X3 : ∀ w ∈ wsX30, w ∈ wsX4_init := by decide +kernel
set_option maxRecDepth 100000 in
theorem inX4_init_X4 : ∀ w ∈ wsX40, w ∈ wsX4_init := by decide +kernel
set_option maxRecDepth 100000 in
theorem lkX4_init_0 : (.methodLink RX4 1 objectInit : Cond) ∈ wsX4_init := by decide +kernel
set_option maxRecDepth 100000 in
theorem lkX4_init_1 : (.instanceMethod objectInit : Cond) ∈ wsX4_init := by decide +kernel
set_option maxRecDepth 100000 in
theorem lkX4_init_2 : (.classLink RX4 7 RX1 : Cond) ∈ wsX4_init := by decide +kernel
set_option maxRecDepth 100000 in
theorem lkX4_init_3 : (.instantiable RX1 6 : Cond) ∈ wsX4_init := by decide +kernel
set_option maxRecDepth 100000 in
theorem lkX4_init_4 : (.initialized RX1 : Cond) ∈ wsX4_init := by decide +kernel
set_option maxRecDepth 100000 in
theorem lkX4_init_5 : (.instanceMethod yX1_init : Cond) ∈ wsX4_init := by decide +kernel
set_option maxRecDepth 100000 in
theorem lkX4_init_6 : (.fieldLink RX4 10 "Switchlog" "net" "LSwitchlog$Net;" : Cond) ∈ wsX4_init := by decide +kernel
set_option maxRecDepth 100000 in
theorem lkX4_init_7 : (.classLink RX4 16 RX3 : Cond) ∈ wsX4_init := by decide +kernel
set_option maxRecDepth 100000 in
theorem lkX4_init_8 : (.instantiable RX3 3 : Cond) ∈ wsX4_init := by decide +kernel
set_option maxRecDepth 100000 in
theorem lkX4_init_9 : (.initialized RX3 : Cond) ∈ wsX4_init := by decide +kernel
set_option maxRecDepth 100000 in
theorem lkX4_init_10 : (.instanceMethod yX3_init : Cond) ∈ wsX4_init := by decide +kernel
set_option maxRecDepth 100000 in
theorem lkX4_init_11 : (.fieldLink RX4 19 "Switchlog" "now" "LSwitchlog$State;" : Cond) ∈ wsX4_init := by decide +kernel
set_option maxRecDepth 100000 in
theorem lkX4_init_12 : (.classLink RX4 23 RX0 : Cond) ∈ wsX4_init := by decide +kernel
set_option maxRecDepth 100000 in
theorem lkX4_init_13 : (.instantiable RX0 2 : Cond) ∈ wsX4_init := by decide +kernel
set_option maxRecDepth 100000 in
theorem lkX4_init_14 : (.initialized RX0 : Cond) ∈ wsX4_init := by decide +kernel
set_option maxRecDepth 100000 in
theorem lkX4_init_15 : (.instanceMethod yX0_init : Cond) ∈ wsX4_init := by decide +kernel
set_option maxRecDepth 100000 in
theorem lkX4_init_16 : (.methodLink RX4 25 yX0_init : Cond) ∈ wsX4_init := by decide +kernel
set_option maxRecDepth 100000 in
theorem lkX4_init_17 : (.fieldLink RX4 28 "Switchlog" "done" "LSwitchlog$ActRow;" : Cond) ∈ wsX4_init := by decide +kernel
set_option maxRecDepth 100000 in
theorem lkX4_init_18 : (.fieldLink RX4 32 "Switchlog" "written" "LSwitchlog$ActRow;" : Cond) ∈ wsX4_init := by decide +kernel
set_option maxRecDepth 100000 in
theorem lkX4_init_19 : (.classLink RX4 35 RX2 : Cond) ∈ wsX4_init := by decide +kernel
set_option maxRecDepth 100000 in
theorem lkX4_init_20 : (.instantiable RX2 2 : Cond) ∈ wsX4_init := by decide +kernel
set_option maxRecDepth 100000 in
theorem lkX4_init_21 : (.initialized RX2 : Cond) ∈ wsX4_init := by decide +kernel
set_option maxRecDepth 100000 in
theorem lkX4_init_22 : (.instanceMethod yX2_init : Cond) ∈ wsX4_init := by decide +kernel
set_option maxRecDepth 100000 in
theorem lkX4_init_23 : (.fieldLink RX4 38 "Switchlog" "permits" "LSwitchlog$Permits;" : Cond) ∈ wsX4_init := by decide +kernel
set_option maxRecDepth 100000 in
theorem lkX4_init_24 : (.fieldLink RX4 42 "Switchlog" "thought" "LSwitchlog$State;" : Cond) ∈ wsX4_init := by decide +kernel
set_option maxRecDepth 100000 in
theorem lkX4_init_25 : (.fieldLink RX4 45 "Switchlog" "after" "LSwitchlog$State;" : Cond) ∈ wsX4_init := by decide +kernel
abbrev rmX4_init : Room := { frames := 2, cells := 11, slots := 285, locals := 33 }
set_option maxHeartbeats 4000000 in
set_option maxRecDepth 100000 in
theorem kX4_init (l : Launch) (D : va_G) (cI cZ cL : ClassId) (sz0 : Nat) (h0 : Nat) : Met l yX4_init wsX4_init rmX4_init (PM D cI cZ cL [.ref h0] [(h0, .inr (4, [.null, .null, .null, .null, .null, .null, .null]))] sz0) (QC D (va_A [(h0, .inr (4, [.null, .null, .null, .null, .null, .null, .null]))] sz0) (fun u : Nat × Nat × Nat × Nat × Nat × Nat × Nat × Nat × Nat × Nat × Nat => [(h0, .inr (4, [.ref u.1, .ref u.2.2.1, .ref u.2.2.2.1, .ref u.2.2.2.2.2.1, .ref u.2.2.2.2.2.2.2.1, .ref u.2.2.2.2.2.2.2.2.2.1, .ref u.2.2.2.2.2.2.2.2.2.2])), (u.1, .inr (1, [.ref u.2.1, .int 0, .int 0, .int 0, .int 0, .int 0])), (u.2.1, .inl (cI, 24, .inl (fun _ => 0))), (u.2.2.1, .inr (3, [.int 0, .int 0, .int 0])), (u.2.2.2.1, .inr (0, [.ref u.2.2.2.2.1, .int 0])), (u.2.2.2.2.1, .inl (cI, 200, .inl (fun _ => 0))), (u.2.2.2.2.2.1, .inr (0, [.ref u.2.2.2.2.2.2.1, .int 0])), (u.2.2.2.2.2.2.1, .inl (cI, 30, .inl (fun _ => 0))), (u.2.2.2.2.2.2.2.1, .inr (2, [.ref u.2.2.2.2.2.2.2.2.1, .int 0])), (u.2.2.2.2.2.2.2.2.1, .inl (cI, 10, .inl (fun _ => 0))), (u.2.2.2.2.2.2.2.2.2.1, .inr (3, [.int 0, .int 0, .int 0])), (u.2.2.2.2.2.2.2.2.2.2, .inr (3, [.int 0, .int 0, .int 0]))])) 11 285 (va_A [(h0, .inr (4, [.null, .null, .null, .null, .null, .null, .null]))] sz0) := by
  refine Met.ofW (cc := cX4_init) (maxL := 1) (ret := none) (by decide) rfl ?_
  intro p e s m args below meth c s₁ B hml hv
  obtain ⟨rfl, hsz, hP, hKK, hD0⟩ := hv
  have hK := hKK.1
  have hx := B.exec
  have hb := B.bytes
  have hr := B.returns
  have hts := atoms_spec (ws := wsX4_init) B.pre
  have hown : s.vm.findClass RX4 = some m.cls := findClass_of_methodNamed B.named
  have hlocks := B.notSynchronized
  have hin : meth.name = "<init>" := (name_of_methodNamed B.named B.method).1
  subst hsz
  have hD := hD0.self (sz := s.heap.size)
  generalize hAe : va_A [(h0, .inr (4, [.null, .null, .null, .null, .null, .null, .null]))] s.heap.size = A at hD ⊢
  have hA : ∀ q : Nat, s.heap.size ≤ q → A q := fun q h => by rw [← hAe]; exact Or.inr h
  have hS : va_S A s.heap s.heap [] := va_S.rf
  have hl := lv_entry ([.ref h0]) (n := 1) (Nat.le_of_ble_eq_true rfl)
  rw [lg_entry_eq]
  generalize (lg_sl ([.ref h0]) ++ List.replicate (1 - (lg_sl ([.ref h0])).length) Slot.unset).toArray = ls at hl ⊢
  have hl : lv_has ls 1 [(0, .ref h0)] := hl
  have hP : va_P D vwCl [(h0, .inr (4, [.null, .null, .null, .null, .null, .null, .null]))] s.heap := hP
  refine lv_aload_n hx hb dX4_init_0 rfl (lv_at hl 0 rfl) ?_
  refine W.objInit hx hb hown (hts _ lkX4_init_0) (hts _ lkX4_init_1) (hts _ (List.mem_of_getElem? (l := wsX4_init) (i := 3) rfl)) rfl (by rw [hml]; exact hl.1) rfl dX4_init_1 (Nat.le_of_ble_eq_true rfl) (Nat.le_of_ble_eq_true rfl) ?_
  refine W.eq (g2 := F0 m 4 ls []) rfl ?_
  refine lv_aload_n hx hb dX4_init_4 rfl (lv_at hl 0 rfl) ?_
  refine va_new (ci := 1) (fs := [.null, .int 0, .int 0, .int 0, .int 0, .int 0]) (C := RX1) (T := TX1) (N := 6) hx hb hts inX4_init_X1 tyX1 tyX1_ok hown (hts _ lkX4_init_2) (hts _ lkX4_init_3) (hts _ lkX4_init_4) hK hP hD hS hA rfl (fun j hj => by rcases (show j = 0 ∨ j = 1 ∨ j = 2 ∨ j = 3 ∨ j = 4 ∨ j = 5 by omega) with rfl | rfl | rfl | rfl | rfl | rfl <;> rfl) (Nat.le_of_ble_eq_true rfl) (Nat.le_of_ble_eq_true rfl) dX4_init_5 (fun q1 H hP hD hS => ?_)
  have hP : va_P D vwCl [(h0, .inr (4, [.null, .null, .null, .null, .null, .null, .null])), (q1, .inr (1, [.null, .int 0, .int 0, .int 0, .int 0, .int 0]))] H := hP
  have hD : va_D A [(h0, .inr (4, [.null, .null, .null, .null, .null, .null, .null])), (q1, .inr (1, [.null, .int 0, .int 0, .int 0, .int 0, .int 0]))] := hD
  refine lv_dup hx hb dX4_init_8 rfl ?_
  refine zz_cN (As := []) (wr := [(h0, .inr (4, [.null, .null, .null, .null, .null, .null, .null]))]) (w1 := fun u : Nat => [(q1, .inr (1, [.ref u, .int 0, .int 0, .int 0, .int 0, .int 0])), (u, .inl (cI, 24, .inl (fun _ => 0)))]) (wt' := fun u : Nat => [(h0, .inr (4, [.null, .null, .null, .null, .null, .null, .null])), (q1, .inr (1, [.ref u, .int 0, .int 0, .int 0, .int 0, .int 0])), (u, .inl (cI, 24, .inl (fun _ => 0)))]) (wc := [(q1, .inr (1, [.null, .int 0, .int 0, .int 0, .int 0, .int 0]))]) ⟨hx, hb, hml, hown, hts⟩ (kX1_init l D cI cZ cL H.size q1) ⟨va_cnB 0 hts gX4_init_X1_init_n9 rfl rfl rfl hKK.2.2.2.2.2.1 (hts _ lkX4_init_4) (by decide +kernel) ⟨Nat.le_of_ble_eq_true rfl, Nat.le_of_ble_eq_true rfl⟩, rfl, hts _ lkX4_init_5⟩ hP hD hS hA hKK [1] [0] [0, 1, 2] rfl rfl (by decide) (by decide) (fun _ => rfl) (by decide) (by decide) rfl hl.1 rfl (Nat.le_of_ble_eq_true rfl) dX4_init_9 ⟨Nat.le_of_ble_eq_true rfl, Nat.le_of_ble_eq_true rfl⟩ (fun u H locs hP hD hS => ?_)
  obtain ⟨q2, rfl⟩ : ∃ z, z = u := ⟨_, rfl⟩
  have hP : va_P D vwCl [(h0, .inr (4, [.null, .null, .null, .null, .null, .null, .null])), (q1, .inr (1, [.ref q2, .int 0, .int 0, .int 0, .int 0, .int 0])), (q2, .inl (cI, 24, .inl (fun _ => 0)))] H := hP
  have hD : va_D A [(h0, .inr (4, [.null, .null, .null, .null, .null, .null, .null])), (q1, .inr (1, [.ref q2, .int 0, .int 0, .int 0, .int 0, .int 0])), (q2, .inl (cI, 24, .inl (fun _ => 0)))] := hD
  refine va_putF (D := D) (ci := 4) (v := .ref q1) (ty := .object "Switchlog$Net") (C := RX4) (T := TX4) (N := 7) hx hb hts inX4_init_X4 tyX4 tyX4_ok nmX4 hown hK hP hD hS 0 rfl rfl 0 (by decide) (hts _ lkX4_init_6) (fun _ h9 => h9) rfl hin rfl (by decide +kernel) rfl rfl (Nat.le_of_ble_eq_true rfl) dX4_init_12 (fun H locs hP hD hS => ?_)
  have hP : va_P D vwCl [(h0, .inr (4, [.ref q1, .null, .null, .null, .null, .null, .null])), (q1, .inr (1, [.ref q2, .int 0, .int 0, .int 0, .int 0, .int 0])), (q2, .inl (cI, 24, .inl (fun _ => 0)))] H := hP
  have hD : va_D A [(h0, .inr (4, [.ref q1, .null, .null, .null, .null, .null, .null])), (q1, .inr (1, [.ref q2, .int 0, .int 0, .int 0, .int 0, .int 0])), (q2, .inl (cI, 24, .inl (fun _ => 0)))] := hD
  refine lv_aload_n hx hb dX4_init_15 rfl (lv_at hl 0 rfl) ?_
  refine va_new (ci := 3) (fs := [.int 0, .int 0, .int 0]) (C := RX3) (T := TX3) (N := 3) hx hb hts inX4_init_X3 tyX3 tyX3_ok hown (hts _ lkX4_init_7) (hts _ lkX4_init_8) (hts _ lkX4_init_9) hK hP hD hS hA rfl (fun j hj => by rcases (show j = 0 ∨ j = 1 ∨ j = 2 by omega) with rfl | rfl | rfl <;> rfl) (Nat.le_of_ble_eq_true rfl) (Nat.le_of_ble_eq_true rfl) dX4_init_16 (fun q3 H hP hD hS => ?_)
  have hP : va_P D vwCl [(h0, .inr (4, [.ref q1, .null, .null, .null, .null, .null, .null])), (q1, .inr (1, [.ref q2, .int 0, .int 0, .int 0, .int 0, .int 0])), (q2, .inl (cI, 24, .inl (fun _ => 0))), (q3, .inr (3, [.int 0, .int 0, .int 0]))] H := hP
  have hD : va_D A [(h0, .inr (4, [.ref q1, .null, .null, .null, .null, .null, .null])), (q1, .inr (1, [.ref q2, .int 0, .int 0, .int 0, .int 0, .int 0])), (q2, .inl (cI, 24, .inl (fun _ => 0))), (q3, .inr (3, [.int 0, .int 0, .int 0]))] := hD
  refine lv_dup hx hb dX4_init_19 rfl ?_
  refine zz_cN (As := []) (wr := [(h0, .inr (4, [.ref q1, .null, .null, .null, .null, .null, .null])), (q1, .inr (1, [.ref q2, .int 0, .int 0, .int 0, .int 0, .int 0])), (q2, .inl (cI, 24, .inl (fun _ => 0)))]) (w1 := fun u : Unit => [(q3, .inr (3, [.int 0, .int 0, .int 0]))]) (wt' := fun u : Unit => [(h0, .inr (4, [.ref q1, .null, .null, .null, .null, .null, .null])), (q1, .inr (1, [.ref q2, .int 0, .int 0, .int 0, .int 0, .int 0])), (q2, .inl (cI, 24, .inl (fun _ => 0))), (q3, .inr (3, [.int 0, .int 0, .int 0]))]) (wc := [(q3, .inr (3, [.int 0, .int 0, .int 0]))]) ⟨hx, hb, hml, hown, hts⟩ (kX3_init l D cI cZ cL H.size q3) ⟨va_cnB 0 hts gX4_init_X3_init_n18 rfl rfl rfl hKK.2.2.2.2.2.2.1 (hts _ lkX4_init_9) (by decide +kernel) ⟨Nat.le_of_ble_eq_true rfl, Nat.le_of_ble_eq_true rfl⟩, rfl, hts _ lkX4_init_10⟩ hP hD hS hA hKK [3] [0, 1, 2] [0, 1, 2, 3] rfl rfl (by decide) (by decide) (fun _ => rfl) (by decide) (by decide) rfl hl.1 rfl (Nat.le_of_ble_eq_true rfl) dX4_init_20 ⟨Nat.le_of_ble_eq_true rfl, Nat.le_of_ble_eq_true rfl⟩ (fun u H locs hP hD hS => ?_)
  have hP : va_P D vwCl [(h0, .inr (4, [.ref q1, .null, .null, .null, .null, .null, .null])), (q1, .inr (1, [.ref q2, .int 0, .int 0, .int 0, .int 0, .int 0])), (q2, .inl (cI, 24, .inl (fun _ => 0))), (q3, .inr (3, [.int 0, .int 0, .int 0]))] H := hP
  have hD : va_D A [(h0, .inr (4, [.ref q1, .null, .null, .null, .null, .null, .null])), (q1, .inr (1, [.ref q2, .int 0, .int 0, .int 0, .int 0, .int 0])), (q2, .inl (cI, 24, .inl (fun _ => 0))), (q3, .inr (3, [.int 0, .int 0, .int 0]))] := hD
  refine va_putF (D := D) (ci := 4) (v := .ref q3) (ty := .object "Switchlog$State") (C := RX4) (T := TX4) (N := 7) hx hb hts inX4_init_X4 tyX4 tyX4_ok nmX4 hown hK hP hD hS 0 rfl rfl 1 (by decide) (hts _ lkX4_init_11) (fun _ h9 => h9) rfl hin rfl (by decide +kernel) rfl rfl (Nat.le_of_ble_eq_true rfl) dX4_init_23 (fun H locs hP hD hS => ?_)
  have hP : va_P D vwCl [(h0, .inr (4, [.ref q1, .ref q3, .null, .null, .null, .null, .null])), (q1, .inr (1, [.ref q2, .int 0, .int 0, .int 0, .int 0, .int 0])), (q2, .inl (cI, 24, .inl (fun _ => 0))), (q3, .inr (3, [.int 0, .int 0, .int 0]))] H := hP
  have hD : va_D A [(h0, .inr (4, [.ref q1, .ref q3, .null, .null, .null, .null, .null])), (q1, .inr (1, [.ref q2, .int 0, .int 0, .int 0, .int 0, .int 0])), (q2, .inl (cI, 24, .inl (fun _ => 0))), (q3, .inr (3, [.int 0, .int 0, .int 0]))] := hD
  refine lv_aload_n hx hb dX4_init_26 rfl (lv_at hl 0 rfl) ?_
  refine va_new (ci := 0) (fs := [.null, .int 0]) (C := RX0) (T := TX0) (N := 2) hx hb hts inX4_init_X0 tyX0 tyX0_ok hown (hts _ lkX4_init_12) (hts _ lkX4_init_13) (hts _ lkX4_init_14) hK hP hD hS hA rfl (fun j hj => by rcases (show j = 0 ∨ j = 1 by omega) with rfl | rfl <;> rfl) (Nat.le_of_ble_eq_true rfl) (Nat.le_of_ble_eq_true rfl) dX4_init_27 (fun q4 H hP hD hS => ?_)
  have hP : va_P D vwCl [(h0, .inr (4, [.ref q1, .ref q3, .null, .null, .null, .null, .null])), (q1, .inr (1, [.ref q2, .int 0, .int 0, .int 0, .int 0, .int 0])), (q2, .inl (cI, 24, .inl (fun _ => 0))), (q3, .inr (3, [.int 0, .int 0, .int 0])), (q4, .inr (0, [.null, .int 0]))] H := hP
  have hD : va_D A [(h0, .inr (4, [.ref q1, .ref q3, .null, .null, .null, .null, .null])), (q1, .inr (1, [.ref q2, .int 0, .int 0, .int 0, .int 0, .int 0])), (q2, .inl (cI, 24, .inl (fun _ => 0))), (q3, .inr (3, [.int 0, .int 0, .int 0])), (q4, .inr (0, [.null, .int 0]))] := hD
  refine lv_dup hx hb dX4_init_30 rfl ?_
  refine lv_sipush (v := 200) hx hb dX4_init_31 (by decide) ?_
  refine zz_cI (As := [.int 200]) (wr := [(h0, .inr (4, [.ref q1, .ref q3, .null, .null, .null, .null, .null])), (q1, .inr (1, [.ref q2, .int 0, .int 0, .int 0, .int 0, .int 0])), (q2, .inl (cI, 24, .inl (fun _ => 0))), (q3, .inr (3, [.int 0, .int 0, .int 0]))]) (w1 := fun u : Nat => [(q4, .inr (0, [.ref u, .int 0])), (u, .inl (cI, 200, .inl (fun _ => 0)))]) (wt' := fun u : Nat => [(h0, .inr (4, [.ref q1, .ref q3, .null, .null, .null, .null, .null])), (q1, .inr (1, [.ref q2, .int 0, .int 0, .int 0, .int 0, .int 0])), (q2, .inl (cI, 24, .inl (fun _ => 0))), (q3, .inr (3, [.int 0, .int 0, .int 0])), (q4, .inr (0, [.ref u, .int 0])), (u, .inl (cI, 200, .inl (fun _ => 0)))]) (wc := [(q4, .inr (0, [.null, .int 0]))]) ⟨hx, hb, hml, hown, hts⟩ (kX0_init l D cI cZ cL H.size q4 200 200 (by decide) (by decide) (by decide)) (cwI 1 hts gX4_init_X0_init rfl rfl rfl (hts _ lkX4_init_14) (hts _ lkX4_init_16) (hts _ lkX4_init_15) rfl (by decide +kernel) ⟨Nat.le_of_ble_eq_true rfl, Nat.le_of_ble_eq_true rfl⟩) hP hD hS hA hKK [4] [0, 1, 2, 3] [0, 1, 2, 3, 4, 5] rfl rfl (by decide) (by decide) (fun _ => rfl) (by decide) (by decide) rfl hl.1 rfl (Nat.le_of_ble_eq_true rfl) dX4_init_34 ⟨Nat.le_of_ble_eq_true rfl, Nat.le_of_ble_eq_true rfl⟩ (fun u H locs hP hD hS => ?_)
  obtain ⟨q5, rfl⟩ : ∃ z, z = u := ⟨_, rfl⟩
  have hP : va_P D vwCl [(h0, .inr (4, [.ref q1, .ref q3, .null, .null, .null, .null, .null])), (q1, .inr (1, [.ref q2, .int 0, .int 0, .int 0, .int 0, .int 0])), (q2, .inl (cI, 24, .inl (fun _ => 0))), (q3, .inr (3, [.int 0, .int 0, .int 0])), (q4, .inr (0, [.ref q5, .int 0])), (q5, .inl (cI, 200, .inl (fun _ => 0)))] H := hP
  have hD : va_D A [(h0, .inr (4, [.ref q1, .ref q3, .null, .null, .null, .null, .null])), (q1, .inr (1, [.ref q2, .int 0, .int 0, .int 0, .int 0, .int 0])), (q2, .inl (cI, 24, .inl (fun _ => 0))), (q3, .inr (3, [.int 0, .int 0, .int 0])), (q4, .inr (0, [.ref q5, .int 0])), (q5, .inl (cI, 200, .inl (fun _ => 0)))] := hD
  refine va_putF (D := D) (ci := 4) (v := .ref q4) (ty := .object "Switchlog$ActRow") (C := RX4) (T := TX4) (N := 7) hx hb hts inX4_init_X4 tyX4 tyX4_ok nmX4 hown hK hP hD hS 0 rfl rfl 2 (by decide) (hts _ lkX4_init_17) (fun _ h9 => h9) rfl hin rfl (by decide +kernel) rfl rfl (Nat.le_of_ble_eq_true rfl) dX4_init_37 (fun H locs hP hD hS => ?_)
  have hP : va_P D vwCl [(h0, .inr (4, [.ref q1, .ref q3, .ref q4, .null, .null, .null, .null])), (q1, .inr (1, [.ref q2, .int 0, .int 0, .int 0, .int 0, .int 0])), (q2, .inl (cI, 24, .inl (fun _ => 0))), (q3, .inr (3, [.int 0, .int 0, .int 0])), (q4, .inr (0, [.ref q5, .int 0])), (q5, .inl (cI, 200, .inl (fun _ => 0)))] H := hP
  have hD : va_D A [(h0, .inr (4, [.ref q1, .ref q3, .ref q4, .null, .null, .null, .null])), (q1, .inr (1, [.ref q2, .int 0, .int 0, .int 0, .int 0, .int 0])), (q2, .inl (cI, 24, .inl (fun _ => 0))), (q3, .inr (3, [.int 0, .int 0, .int 0])), (q4, .inr (0, [.ref q5, .int 0])), (q5, .inl (cI, 200, .inl (fun _ => 0)))] := hD
  refine lv_aload_n hx hb dX4_init_40 rfl (lv_at hl 0 rfl) ?_
  refine va_new (ci := 0) (fs := [.null, .int 0]) (C := RX0) (T := TX0) (N := 2) hx hb hts inX4_init_X0 tyX0 tyX0_ok hown (hts _ lkX4_init_12) (hts _ lkX4_init_13) (hts _ lkX4_init_14) hK hP hD hS hA rfl (fun j hj => by rcases (show j = 0 ∨ j = 1 by omega) with rfl | rfl <;> rfl) (Nat.le_of_ble_eq_true rfl) (Nat.le_of_ble_eq_true rfl) dX4_init_41 (fun q6 H hP hD hS => ?_)
  have hP : va_P D vwCl [(h0, .inr (4, [.ref q1, .ref q3, .ref q4, .null, .null, .null, .null])), (q1, .inr (1, [.ref q2, .int 0, .int 0, .int 0, .int 0, .int 0])), (q2, .inl (cI, 24, .inl (fun _ => 0))), (q3, .inr (3, [.int 0, .int 0, .int 0])), (q4, .inr (0, [.ref q5, .int 0])), (q5, .inl (cI, 200, .inl (fun _ => 0))), (q6, .inr (0, [.null, .int 0]))] H := hP
  have hD : va_D A [(h0, .inr (4, [.ref q1, .ref q3, .ref q4, .null, .null, .null, .null])), (q1, .inr (1, [.ref q2, .int 0, .int 0, .int 0, .int 0, .int 0])), (q2, .inl (cI, 24, .inl (fun _ => 0))), (q3, .inr (3, [.int 0, .int 0, .int 0])), (q4, .inr (0, [.ref q5, .int 0])), (q5, .inl (cI, 200, .inl (fun _ => 0))), (q6, .inr (0, [.null, .int 0]))] := hD
  refine lv_dup hx hb dX4_init_44 rfl ?_
  refine lv_bipush (v := 30) hx hb dX4_init_45 (by decide) ?_
  refine zz_cI (As := [.int 30]) (wr := [(h0, .inr (4, [.ref q1, .ref q3, .ref q4, .null, .null, .null, .null])), (q1, .inr (1, [.ref q2, .int 0, .int 0, .int 0, .int 0, .int 0])), (q2, .inl (cI, 24, .inl (fun _ => 0))), (q3, .inr (3, [.int 0, .int 0, .int 0])), (q4, .inr (0, [.ref q5, .int 0])), (q5, .inl (cI, 200, .inl (fun _ => 0)))]) (w1 := fun u : Nat => [(q6, .inr (0, [.ref u, .int 0])), (u, .inl (cI, 30, .inl (fun _ => 0)))]) (wt' := fun u : Nat => [(h0, .inr (4, [.ref q1, .ref q3, .ref q4, .null, .null, .null, .null])), (q1, .inr (1, [.ref q2, .int 0, .int 0, .int 0, .int 0, .int 0])), (q2, .inl (cI, 24, .inl (fun _ => 0))), (q3, .inr (3, [.int 0, .int 0, .int 0])), (q4, .inr (0, [.ref q5, .int 0])), (q5, .inl (cI, 200, .inl (fun _ => 0))), (q6, .inr (0, [.ref u, .int 0])), (u, .inl (cI, 30, .inl (fun _ => 0)))]) (wc := [(q6, .inr (0, [.null, .int 0]))]) ⟨hx, hb, hml, hown, hts⟩ (kX0_init l D cI cZ cL H.size q6 30 30 (by decide) (by decide) (by decide)) (cwI 1 hts gX4_init_X0_init rfl rfl rfl (hts _ lkX4_init_14) (hts _ lkX4_init_16) (hts _ lkX4_init_15) rfl (by decide +kernel) ⟨Nat.le_of_ble_eq_true rfl, Nat.le_of_ble_eq_true rfl⟩) hP hD hS hA hKK [6] [0, 1, 2, 3, 4, 5] [0, 1, 2, 3, 4, 5, 6, 7] rfl rfl (by decide) (by decide) (fun _ => rfl) (by decide) (by decide) rfl hl.1 rfl (Nat.le_of_ble_eq_true rfl) dX4_init_47 ⟨Nat.le_of_ble_eq_true rfl, Nat.le_of_ble_eq_true rfl⟩ (fun u H locs hP hD hS => ?_)
  obtain ⟨q7, rfl⟩ : ∃ z, z = u := ⟨_, rfl⟩
  have hP : va_P D vwCl [(h0, .inr (4, [.ref q1, .ref q3, .ref q4, .null, .null, .null, .null])), (q1, .inr (1, [.ref q2, .int 0, .int 0, .int 0, .int 0, .int 0])), (q2, .inl (cI, 24, .inl (fun _ => 0))), (q3, .inr (3, [.int 0, .int 0, .int 0])), (q4, .inr (0, [.ref q5, .int 0])), (q5, .inl (cI, 200, .inl (fun _ => 0))), (q6, .inr (0, [.ref q7, .int 0])), (q7, .inl (cI, 30, .inl (fun _ => 0)))] H := hP
  have hD : va_D A [(h0, .inr (4, [.ref q1, .ref q3, .ref q4, .null, .null, .null, .null])), (q1, .inr (1, [.ref q2, .int 0, .int 0, .int 0, .int 0, .int 0])), (q2, .inl (cI, 24, .inl (fun _ => 0))), (q3, .inr (3, [.int 0, .int 0, .int 0])), (q4, .inr (0, [.ref q5, .int 0])), (q5, .inl (cI, 200, .inl (fun _ => 0))), (q6, .inr (0, [.ref q7, .int 0])), (q7, .inl (cI, 30, .inl (fun _ => 0)))] := hD
  refine va_putF (D := D) (ci := 4) (v := .ref q6) (ty := .object "Switchlog$ActRow") (C := RX4) (T := TX4) (N := 7) hx hb hts inX4_init_X4 tyX4 tyX4_ok nmX4 hown hK hP hD hS 0 rfl rfl 3 (by decide) (hts _ lkX4_init_18) (fun _ h9 => h9) rfl hin rfl (by decide +kernel) rfl rfl (Nat.le_of_ble_eq_true rfl) dX4_init_50 (fun H locs hP hD hS => ?_)
  have hP : va_P D vwCl [(h0, .inr (4, [.ref q1, .ref q3, .ref q4, .ref q6, .null, .null, .null])), (q1, .inr (1, [.ref q2, .int 0, .int 0, .int 0, .int 0, .int 0])), (q2, .inl (cI, 24, .inl (fun _ => 0))), (q3, .inr (3, [.int 0, .int 0, .int 0])), (q4, .inr (0, [.ref q5, .int 0])), (q5, .inl (cI, 200, .inl (fun _ => 0))), (q6, .inr (0, [.ref q7, .int 0])), (q7, .inl (cI, 30, .inl (fun _ => 0)))] H := hP
  have hD : va_D A [(h0, .inr (4, [.ref q1, .ref q3, .ref q4, .ref q6, .null, .null, .null])), (q1, .inr (1, [.ref q2, .int 0, .int 0, .int 0, .int 0, .int 0])), (q2, .inl (cI, 24, .inl (fun _ => 0))), (q3, .inr (3, [.int 0, .int 0, .int 0])), (q4, .inr (0, [.ref q5, .int 0])), (q5, .inl (cI, 200, .inl (fun _ => 0))), (q6, .inr (0, [.ref q7, .int 0])), (q7, .inl (cI, 30, .inl (fun _ => 0)))] := hD
  refine lv_aload_n hx hb dX4_init_53 rfl (lv_at hl 0 rfl) ?_
  refine va_new (ci := 2) (fs := [.null, .int 0]) (C := RX2) (T := TX2) (N := 2) hx hb hts inX4_init_X2 tyX2 tyX2_ok hown (hts _ lkX4_init_19) (hts _ lkX4_init_20) (hts _ lkX4_init_21) hK hP hD hS hA rfl (fun j hj => by rcases (show j = 0 ∨ j = 1 by omega) with rfl | rfl <;> rfl) (Nat.le_of_ble_eq_true rfl) (Nat.le_of_ble_eq_true rfl) dX4_init_54 (fun q8 H hP hD hS => ?_)
  have hP : va_P D vwCl [(h0, .inr (4, [.ref q1, .ref q3, .ref q4, .ref q6, .null, .null, .null])), (q1, .inr (1, [.ref q2, .int 0, .int 0, .int 0, .int 0, .int 0])), (q2, .inl (cI, 24, .inl (fun _ => 0))), (q3, .inr (3, [.int 0, .int 0, .int 0])), (q4, .inr (0, [.ref q5, .int 0])), (q5, .inl (cI, 200, .inl (fun _ => 0))), (q6, .inr (0, [.ref q7, .int 0])), (q7, .inl (cI, 30, .inl (fun _ => 0))), (q8, .inr (2, [.null, .int 0]))] H := hP
  have hD : va_D A [(h0, .inr (4, [.ref q1, .ref q3, .ref q4, .ref q6, .null, .null, .null])), (q1, .inr (1, [.ref q2, .int 0, .int 0, .int 0, .int 0, .int 0])), (q2, .inl (cI, 24, .inl (fun _ => 0))), (q3, .inr (3, [.int 0, .int 0, .int 0])), (q4, .inr (0, [.ref q5, .int 0])), (q5, .inl (cI, 200, .inl (fun _ => 0))), (q6, .inr (0, [.ref q7, .int 0])), (q7, .inl (cI, 30, .inl (fun _ => 0))), (q8, .inr (2, [.null, .int 0]))] := hD
  refine lv_dup hx hb dX4_init_57 rfl ?_
  refine zz_cN (As := []) (wr := [(h0, .inr (4, [.ref q1, .ref q3, .ref q4, .ref q6, .null, .null, .null])), (q1, .inr (1, [.ref q2, .int 0, .int 0, .int 0, .int 0, .int 0])), (q2, .inl (cI, 24, .inl (fun _ => 0))), (q3, .inr (3, [.int 0, .int 0, .int 0])), (q4, .inr (0, [.ref q5, .int 0])), (q5, .inl (cI, 200, .inl (fun _ => 0))), (q6, .inr (0, [.ref q7, .int 0])), (q7, .inl (cI, 30, .inl (fun _ => 0)))]) (w1 := fun u : Nat => [(q8, .inr (2, [.ref u, .int 0])), (u, .inl (cI, 10, .inl (fun _ => 0)))]) (wt' := fun u : Nat => [(h0, .inr (4, [.ref q1, .ref q3, .ref q4, .ref q6, .null, .null, .null])), (q1, .inr (1, [.ref q2, .int 0, .int 0, .int 0, .int 0, .int 0])), (q2, .inl (cI, 24, .inl (fun _ => 0))), (q3, .inr (3, [.int 0, .int 0, .int 0])), (q4, .inr (0, [.ref q5, .int 0])), (q5, .inl (cI, 200, .inl (fun _ => 0))), (q6, .inr (0, [.ref q7, .int 0])), (q7, .inl (cI, 30, .inl (fun _ => 0))), (q8, .inr (2, [.ref u, .int 0])), (u, .inl (cI, 10, .inl (fun _ => 0)))]) (wc := [(q8, .inr (2, [.null, .int 0]))]) ⟨hx, hb, hml, hown, hts⟩ (kX2_init l D cI cZ cL H.size q8) ⟨va_cnB 0 hts gX4_init_X2_init_n37 rfl rfl rfl hKK.2.2.2.2.2.2.2 (hts _ lkX4_init_21) (by decide +kernel) ⟨Nat.le_of_ble_eq_true rfl, Nat.le_of_ble_eq_true rfl⟩, rfl, hts _ lkX4_init_22⟩ hP hD hS hA hKK [8] [0, 1, 2, 3, 4, 5, 6, 7] [0, 1, 2, 3, 4, 5, 6, 7, 8, 9] rfl rfl (by decide) (by decide) (fun _ => rfl) (by decide) (by decide) rfl hl.1 rfl (Nat.le_of_ble_eq_true rfl) dX4_init_58 ⟨Nat.le_of_ble_eq_true rfl, Nat.le_of_ble_eq_true rfl⟩ (fun u H locs hP hD hS => ?_)
  obtain ⟨q9, rfl⟩ : ∃ z, z = u := ⟨_, rfl⟩
  have hP : va_P D vwCl [(h0, .inr (4, [.ref q1, .ref q3, .ref q4, .ref q6, .null, .null, .null])), (q1, .inr (1, [.ref q2, .int 0, .int 0, .int 0, .int 0, .int 0])), (q2, .inl (cI, 24, .inl (fun _ => 0))), (q3, .inr (3, [.int 0, .int 0, .int 0])), (q4, .inr (0, [.ref q5, .int 0])), (q5, .inl (cI, 200, .inl (fun _ => 0))), (q6, .inr (0, [.ref q7, .int 0])), (q7, .inl (cI, 30, .inl (fun _ => 0))), (q8, .inr (2, [.ref q9, .int 0])), (q9, .inl (cI, 10, .inl (fun _ => 0)))] H := hP
  have hD : va_D A [(h0, .inr (4, [.ref q1, .ref q3, .ref q4, .ref q6, .null, .null, .null])), (q1, .inr (1, [.ref q2, .int 0, .int 0, .int 0, .int 0, .int 0])), (q2, .inl (cI, 24, .inl (fun _ => 0))), (q3, .inr (3, [.int 0, .int 0, .int 0])), (q4, .inr (0, [.ref q5, .int 0])), (q5, .inl (cI, 200, .inl (fun _ => 0))), (q6, .inr (0, [.ref q7, .int 0])), (q7, .inl (cI, 30, .inl (fun _ => 0))), (q8, .inr (2, [.ref q9, .int 0])), (q9, .inl (cI, 10, .inl (fun _ => 0)))] := hD
  refine va_putF (D := D) (ci := 4) (v := .ref q8) (ty := .object "Switchlog$Permits") (C := RX4) (T := TX4) (N := 7) hx hb hts inX4_init_X4 tyX4 tyX4_ok nmX4 hown hK hP hD hS 0 rfl rfl 4 (by decide) (hts _ lkX4_init_23) (fun _ h9 => h9) rfl hin rfl (by decide +kernel) rfl rfl (Nat.le_of_ble_eq_true rfl) dX4_init_61 (fun H locs hP hD hS => ?_)
  have hP : va_P D vwCl [(h0, .inr (4, [.ref q1, .ref q3, .ref q4, .ref q6, .ref q8, .null, .null])), (q1, .inr (1, [.ref q2, .int 0, .int 0, .int 0, .int 0, .int 0])), (q2, .inl (cI, 24, .inl (fun _ => 0))), (q3, .inr (3, [.int 0, .int 0, .int 0])), (q4, .inr (0, [.ref q5, .int 0])), (q5, .inl (cI, 200, .inl (fun _ => 0))), (q6, .inr (0, [.ref q7, .int 0])), (q7, .inl (cI, 30, .inl (fun _ => 0))), (q8, .inr (2, [.ref q9, .int 0])), (q9, .inl (cI, 10, .inl (fun _ => 0)))] H := hP
  have hD : va_D A [(h0, .inr (4, [.ref q1, .ref q3, .ref q4, .ref q6, .ref q8, .null, .null])), (q1, .inr (1, [.ref q2, .int 0, .int 0, .int 0, .int 0, .int 0])), (q2, .inl (cI, 24, .inl (fun _ => 0))), (q3, .inr (3, [.int 0, .int 0, .int 0])), (q4, .inr (0, [.ref q5, .int 0])), (q5, .inl (cI, 200, .inl (fun _ => 0))), (q6, .inr (0, [.ref q7, .int 0])), (q7, .inl (cI, 30, .inl (fun _ => 0))), (q8, .inr (2, [.ref q9, .int 0])), (q9, .inl (cI, 10, .inl (fun _ => 0)))] := hD
  refine lv_aload_n hx hb dX4_init_64 rfl (lv_at hl 0 rfl) ?_
  refine va_new (ci := 3) (fs := [.int 0, .int 0, .int 0]) (C := RX3) (T := TX3) (N := 3) hx hb hts inX4_init_X3 tyX3 tyX3_ok hown (hts _ lkX4_init_7) (hts _ lkX4_init_8) (hts _ lkX4_init_9) hK hP hD hS hA rfl (fun j hj => by rcases (show j = 0 ∨ j = 1 ∨ j = 2 by omega) with rfl | rfl | rfl <;> rfl) (Nat.le_of_ble_eq_true rfl) (Nat.le_of_ble_eq_true rfl) dX4_init_65 (fun q10 H hP hD hS => ?_)
  have hP : va_P D vwCl [(h0, .inr (4, [.ref q1, .ref q3, .ref q4, .ref q6, .ref q8, .null, .null])), (q1, .inr (1, [.ref q2, .int 0, .int 0, .int 0, .int 0, .int 0])), (q2, .inl (cI, 24, .inl (fun _ => 0))), (q3, .inr (3, [.int 0, .int 0, .int 0])), (q4, .inr (0, [.ref q5, .int 0])), (q5, .inl (cI, 200, .inl (fun _ => 0))), (q6, .inr (0, [.ref q7, .int 0])), (q7, .inl (cI, 30, .inl (fun _ => 0))), (q8, .inr (2, [.ref q9, .int 0])), (q9, .inl (cI, 10, .inl (fun _ => 0))), (q10, .inr (3, [.int 0, .int 0, .int 0]))] H := hP
  have hD : va_D A [(h0, .inr (4, [.ref q1, .ref q3, .ref q4, .ref q6, .ref q8, .null, .null])), (q1, .inr (1, [.ref q2, .int 0, .int 0, .int 0, .int 0, .int 0])), (q2, .inl (cI, 24, .inl (fun _ => 0))), (q3, .inr (3, [.int 0, .int 0, .int 0])), (q4, .inr (0, [.ref q5, .int 0])), (q5, .inl (cI, 200, .inl (fun _ => 0))), (q6, .inr (0, [.ref q7, .int 0])), (q7, .inl (cI, 30, .inl (fun _ => 0))), (q8, .inr (2, [.ref q9, .int 0])), (q9, .inl (cI, 10, .inl (fun _ => 0))), (q10, .inr (3, [.int 0, .int 0, .int 0]))] := hD
  refine lv_dup hx hb dX4_init_68 rfl ?_
  refine zz_cN (As := []) (wr := [(h0, .inr (4, [.ref q1, .ref q3, .ref q4, .ref q6, .ref q8, .null, .null])), (q1, .inr (1, [.ref q2, .int 0, .int 0, .int 0, .int 0, .int 0])), (q2, .inl (cI, 24, .inl (fun _ => 0))), (q3, .inr (3, [.int 0, .int 0, .int 0])), (q4, .inr (0, [.ref q5, .int 0])), (q5, .inl (cI, 200, .inl (fun _ => 0))), (q6, .inr (0, [.ref q7, .int 0])), (q7, .inl (cI, 30, .inl (fun _ => 0))), (q8, .inr (2, [.ref q9, .int 0])), (q9, .inl (cI, 10, .inl (fun _ => 0)))]) (w1 := fun u : Unit => [(q10, .inr (3, [.int 0, .int 0, .int 0]))]) (wt' := fun u : Unit => [(h0, .inr (4, [.ref q1, .ref q3, .ref q4, .ref q6, .ref q8, .null, .null])), (q1, .inr (1, [.ref q2, .int 0, .int 0, .int 0, .int 0, .int 0])), (q2, .inl (cI, 24, .inl (fun _ => 0))), (q3, .inr (3, [.int 0, .int 0, .int 0])), (q4, .inr (0, [.ref q5, .int 0])), (q5, .inl (cI, 200, .inl (fun _ => 0))), (q6, .inr (0, [.ref q7, .int 0])), (q7, .inl (cI, 30, .inl (fun _ => 0))), (q8, .inr (2, [.ref q9, .int 0])), (q9, .inl (cI, 10, .inl (fun _ => 0))), (q10, .inr (3, [.int 0, .int 0, .int 0]))]) (wc := [(q10, .inr (3, [.int 0, .int 0, .int 0]))]) ⟨hx, hb, hml, hown, hts⟩ (kX3_init l D cI cZ cL H.size q10) ⟨va_cnB 0 hts gX4_init_X3_init_n18 rfl rfl rfl hKK.2.2.2.2.2.2.1 (hts _ lkX4_init_9) (by decide +kernel) ⟨Nat.le_of_ble_eq_true rfl, Nat.le_of_ble_eq_true rfl⟩, rfl, hts _ lkX4_init_10⟩ hP hD hS hA hKK [10] [0, 1, 2, 3, 4, 5, 6, 7, 8, 9] [0, 1, 2, 3, 4, 5, 6, 7, 8, 9, 10] rfl rfl (by decide) (by decide) (fun _ => rfl) (by decide) (by decide) rfl hl.1 rfl (Nat.le_of_ble_eq_true rfl) dX4_init_69 ⟨Nat.le_of_ble_eq_true rfl, Nat.le_of_ble_eq_true rfl⟩ (fun u H locs hP hD hS => ?_)
  have hP : va_P D vwCl [(h0, .inr (4, [.ref q1, .ref q3, .ref q4, .ref q6, .ref q8, .null, .null])), (q1, .inr (1, [.ref q2, .int 0, .int 0, .int 0, .int 0, .int 0])), (q2, .inl (cI, 24, .inl (fun _ => 0))), (q3, .inr (3, [.int 0, .int 0, .int 0])), (q4, .inr (0, [.ref q5, .int 0])), (q5, .inl (cI, 200, .inl (fun _ => 0))), (q6, .inr (0, [.ref q7, .int 0])), (q7, .inl (cI, 30, .inl (fun _ => 0))), (q8, .inr (2, [.ref q9, .int 0])), (q9, .inl (cI, 10, .inl (fun _ => 0))), (q10, .inr (3, [.int 0, .int 0, .int 0]))] H := hP
  have hD : va_D A [(h0, .inr (4, [.ref q1, .ref q3, .ref q4, .ref q6, .ref q8, .null, .null])), (q1, .inr (1, [.ref q2, .int 0, .int 0, .int 0, .int 0, .int 0])), (q2, .inl (cI, 24, .inl (fun _ => 0))), (q3, .inr (3, [.int 0, .int 0, .int 0])), (q4, .inr (0, [.ref q5, .int 0])), (q5, .inl (cI, 200, .inl (fun _ => 0))), (q6, .inr (0, [.ref q7, .int 0])), (q7, .inl (cI, 30, .inl (fun _ => 0))), (q8, .inr (2, [.ref q9, .int 0])), (q9, .inl (cI, 10, .inl (fun _ => 0))), (q10, .inr (3, [.int 0, .int 0, .int 0]))] := hD
  refine va_putF (D := D) (ci := 4) (v := .ref q10) (ty := .object "Switchlog$State") (C := RX4) (T := TX4) (N := 7) hx hb hts inX4_init_X4 tyX4 tyX4_ok nmX4 hown hK hP hD hS 0 rfl rfl 5 (by decide) (hts _ lkX4_init_24) (fun _ h9 => h9) rfl hin rfl (by decide +kernel) rfl rfl (Nat.le_of_ble_eq_true rfl) dX4_init_72 (fun H locs hP hD hS => ?_)
  have hP : va_P D vwCl [(h0, .inr (4, [.ref q1, .ref q3, .ref q4, .ref q6, .ref q8, .ref q10, .null])), (q1, .inr (1, [.ref q2, .int 0, .int 0, .int 0, .int 0, .int 0])), (q2, .inl (cI, 24, .inl (fun _ => 0))), (q3, .inr (3, [.int 0, .int 0, .int 0])), (q4, .inr (0, [.ref q5, .int 0])), (q5, .inl (cI, 200, .inl (fun _ => 0))), (q6, .inr (0, [.ref q7, .int 0])), (q7, .inl (cI, 30, .inl (fun _ => 0))), (q8, .inr (2, [.ref q9, .int 0])), (q9, .inl (cI, 10, .inl (fun _ => 0))), (q10, .inr (3, [.int 0, .int 0, .int 0]))] H := hP
  have hD : va_D A [(h0, .inr (4, [.ref q1, .ref q3, .ref q4, .ref q6, .ref q8, .ref q10, .null])), (q1, .inr (1, [.ref q2, .int 0, .int 0, .int 0, .int 0, .int 0])), (q2, .inl (cI, 24, .inl (fun _ => 0))), (q3, .inr (3, [.int 0, .int 0, .int 0])), (q4, .inr (0, [.ref q5, .int 0])), (q5, .inl (cI, 200, .inl (fun _ => 0))), (q6, .inr (0, [.ref q7, .int 0])), (q7, .inl (cI, 30, .inl (fun _ => 0))), (q8, .inr (2, [.ref q9, .int 0])), (q9, .inl (cI, 10, .inl (fun _ => 0))), (q10, .inr (3, [.int 0, .int 0, .int 0]))] := hD
  refine lv_aload_n hx hb dX4_init_75 rfl (lv_at hl 0 rfl) ?_
  refine va_new (ci := 3) (fs := [.int 0, .int 0, .int 0]) (C := RX3) (T := TX3) (N := 3) hx hb hts inX4_init_X3 tyX3 tyX3_ok hown (hts _ lkX4_init_7) (hts _ lkX4_init_8) (hts _ lkX4_init_9) hK hP hD hS hA rfl (fun j hj => by rcases (show j = 0 ∨ j = 1 ∨ j = 2 by omega) with rfl | rfl | rfl <;> rfl) (Nat.le_of_ble_eq_true rfl) (Nat.le_of_ble_eq_true rfl) dX4_init_76 (fun q11 H hP hD hS => ?_)
  have hP : va_P D vwCl [(h0, .inr (4, [.ref q1, .ref q3, .ref q4, .ref q6, .ref q8, .ref q10, .null])), (q1, .inr (1, [.ref q2, .int 0, .int 0, .int 0, .int 0, .int 0])), (q2, .inl (cI, 24, .inl (fun _ => 0))), (q3, .inr (3, [.int 0, .int 0, .int 0])), (q4, .inr (0, [.ref q5, .int 0])), (q5, .inl (cI, 200, .inl (fun _ => 0))), (q6, .inr (0, [.ref q7, .int 0])), (q7, .inl (cI, 30, .inl (fun _ => 0))), (q8, .inr (2, [.ref q9, .int 0])), (q9, .inl (cI, 10, .inl (fun _ => 0))), (q10, .inr (3, [.int 0, .int 0, .int 0])), (q11, .inr (3, [.int 0, .int 0, .int 0]))] H := hP
  have hD : va_D A [(h0, .inr (4, [.ref q1, .ref q3, .ref q4, .ref q6, .ref q8, .ref q10, .null])), (q1, .inr (1, [.ref q2, .int 0, .int 0, .int 0, .int 0, .int 0])), (q2, .inl (cI, 24, .inl (fun _ => 0))), (q3, .inr (3, [.int 0, .int 0, .int 0])), (q4, .inr (0, [.ref q5, .int 0])), (q5, .inl (cI, 200, .inl (fun _ => 0))), (q6, .inr (0, [.ref q7, .int 0])), (q7, .inl (cI, 30, .inl (fun _ => 0))), (q8, .inr (2, [.ref q9, .int 0])), (q9, .inl (cI, 10, .inl (fun _ => 0))), (q10, .inr (3, [.int 0, .int 0, .int 0])), (q11, .inr (3, [.int 0, .int 0, .int 0]))] := hD
  refine lv_dup hx hb dX4_init_79 rfl ?_
  refine zz_cN (As := []) (wr := [(h0, .inr (4, [.ref q1, .ref q3, .ref q4, .ref q6, .ref q8, .ref q10, .null])), (q1, .inr (1, [.ref q2, .int 0, .int 0, .int 0, .int 0, .int 0])), (q2, .inl (cI, 24, .inl (fun _ => 0))), (q3, .inr (3, [.int 0, .int 0, .int 0])), (q4, .inr (0, [.ref q5, .int 0])), (q5, .inl (cI, 200, .inl (fun _ => 0))), (q6, .inr (0, [.ref q7, .int 0])), (q7, .inl (cI, 30, .inl (fun _ => 0))), (q8, .inr (2, [.ref q9, .int 0])), (q9, .inl (cI, 10, .inl (fun _ => 0))), (q10, .inr (3, [.int 0, .int 0, .int 0]))]) (w1 := fun u : Unit => [(q11, .inr (3, [.int 0, .int 0, .int 0]))]) (wt' := fun u : Unit => [(h0, .inr (4, [.ref q1, .ref q3, .ref q4, .ref q6, .ref q8, .ref q10, .null])), (q1, .inr (1, [.ref q2, .int 0, .int 0, .int 0, .int 0, .int 0])), (q2, .inl (cI, 24, .inl (fun _ => 0))), (q3, .inr (3, [.int 0, .int 0, .int 0])), (q4, .inr (0, [.ref q5, .int 0])), (q5, .inl (cI, 200, .inl (fun _ => 0))), (q6, .inr (0, [.ref q7, .int 0])), (q7, .inl (cI, 30, .inl (fun _ => 0))), (q8, .inr (2, [.ref q9, .int 0])), (q9, .inl (cI, 10, .inl (fun _ => 0))), (q10, .inr (3, [.int 0, .int 0, .int 0])), (q11, .inr (3, [.int 0, .int 0, .int 0]))]) (wc := [(q11, .inr (3, [.int 0, .int 0, .int 0]))]) ⟨hx, hb, hml, hown, hts⟩ (kX3_init l D cI cZ cL H.size q11) ⟨va_cnB 0 hts gX4_init_X3_init_n18 rfl rfl rfl hKK.2.2.2.2.2.2.1 (hts _ lkX4_init_9) (by decide +kernel) ⟨Nat.le_of_ble_eq_true rfl, Nat.le_of_ble_eq_true rfl⟩, rfl, hts _ lkX4_init_10⟩ hP hD hS hA hKK [11] [0, 1, 2, 3, 4, 5, 6, 7, 8, 9, 10] [0, 1, 2, 3, 4, 5, 6, 7, 8, 9, 10, 11] rfl rfl (by decide) (by decide) (fun _ => rfl) (by decide) (by decide) rfl hl.1 rfl (Nat.le_of_ble_eq_true rfl) dX4_init_80 ⟨Nat.le_of_ble_eq_true rfl, Nat.le_of_ble_eq_true rfl⟩ (fun u H locs hP hD hS => ?_)
  have hP : va_P D vwCl [(h0, .inr (4, [.ref q1, .ref q3, .ref q4, .ref q6, .ref q8, .ref q10, .null])), (q1, .inr (1, [.ref q2, .int 0, .int 0, .int 0, .int 0, .int 0])), (q2, .inl (cI, 24, .inl (fun _ => 0))), (q3, .inr (3, [.int 0, .int 0, .int 0])), (q4, .inr (0, [.ref q5, .int 0])), (q5, .inl (cI, 200, .inl (fun _ => 0))), (q6, .inr (0, [.ref q7, .int 0])), (q7, .inl (cI, 30, .inl (fun _ => 0))), (q8, .inr (2, [.ref q9, .int 0])), (q9, .inl (cI, 10, .inl (fun _ => 0))), (q10, .inr (3, [.int 0, .int 0, .int 0])), (q11, .inr (3, [.int 0, .int 0, .int 0]))] H := hP
  have hD : va_D A [(h0, .inr (4, [.ref q1, .ref q3, .ref q4, .ref q6, .ref q8, .ref q10, .null])), (q1, .inr (1, [.ref q2, .int 0, .int 0, .int 0, .int 0, .int 0])), (q2, .inl (cI, 24, .inl (fun _ => 0))), (q3, .inr (3, [.int 0, .int 0, .int 0])), (q4, .inr (0, [.ref q5, .int 0])), (q5, .inl (cI, 200, .inl (fun _ => 0))), (q6, .inr (0, [.ref q7, .int 0])), (q7, .inl (cI, 30, .inl (fun _ => 0))), (q8, .inr (2, [.ref q9, .int 0])), (q9, .inl (cI, 10, .inl (fun _ => 0))), (q10, .inr (3, [.int 0, .int 0, .int 0])), (q11, .inr (3, [.int 0, .int 0, .int 0]))] := hD
  refine va_putF (D := D) (ci := 4) (v := .ref q11) (ty := .object "Switchlog$State") (C := RX4) (T := TX4) (N := 7) hx hb hts inX4_init_X4 tyX4 tyX4_ok nmX4 hown hK hP hD hS 0 rfl rfl 6 (by decide) (hts _ lkX4_init_25) (fun _ h9 => h9) rfl hin rfl (by decide +kernel) rfl rfl (Nat.le_of_ble_eq_true rfl) dX4_init_83 (fun H locs hP hD hS => ?_)
  have hP : va_P D vwCl [(h0, .inr (4, [.ref q1, .ref q3, .ref q4, .ref q6, .ref q8, .ref q10, .ref q11])), (q1, .inr (1, [.ref q2, .int 0, .int 0, .int 0, .int 0, .int 0])), (q2, .inl (cI, 24, .inl (fun _ => 0))), (q3, .inr (3, [.int 0, .int 0, .int 0])), (q4, .inr (0, [.ref q5, .int 0])), (q5, .inl (cI, 200, .inl (fun _ => 0))), (q6, .inr (0, [.ref q7, .int 0])), (q7, .inl (cI, 30, .inl (fun _ => 0))), (q8, .inr (2, [.ref q9, .int 0])), (q9, .inl (cI, 10, .inl (fun _ => 0))), (q10, .inr (3, [.int 0, .int 0, .int 0])), (q11, .inr (3, [.int 0, .int 0, .int 0]))] H := hP
  have hD : va_D A [(h0, .inr (4, [.ref q1, .ref q3, .ref q4, .ref q6, .ref q8, .ref q10, .ref q11])), (q1, .inr (1, [.ref q2, .int 0, .int 0, .int 0, .int 0, .int 0])), (q2, .inl (cI, 24, .inl (fun _ => 0))), (q3, .inr (3, [.int 0, .int 0, .int 0])), (q4, .inr (0, [.ref q5, .int 0])), (q5, .inl (cI, 200, .inl (fun _ => 0))), (q6, .inr (0, [.ref q7, .int 0])), (q7, .inl (cI, 30, .inl (fun _ => 0))), (q8, .inr (2, [.ref q9, .int 0])), (q9, .inl (cI, 10, .inl (fun _ => 0))), (q10, .inr (3, [.int 0, .int 0, .int 0])), (q11, .inr (3, [.int 0, .int 0, .int 0]))] := hD
  refine W.widen (k := 11) (n := 285) (Nat.le_of_ble_eq_true rfl) (Nat.le_of_ble_eq_true rfl) ?_
  exact W.vret hx hb hr (fun t ht hW => ⟨rfl, (q1, q2, q3, q4, q5, q6, q7, q8, q9, q10, q11), by rw [ht]; exact hP, hD, hS.F ht⟩) hS.2.2 dX4_init_86
