def fX0_size (N : Nat) (sz : Int32) : Option ((Int32)) :=
  some sz
set_option maxRecDepth 100000 in
theorem inX0_size_X0 : ∀ w ∈ wsX00, w ∈ wsX0_size := by decide +kernel
set_option maxRecDepth 100000 in
theorem lkX0_size_0 : (.fieldLink RX0 13 "Switchlog$ActRow" "size" "I" : Cond) ∈ wsX0_size := by decide +kernel
abbrev rmX0_size : Room := { frames := 0, cells := 0, slots := 0, locals := 0 }
set_option maxHeartbeats 4000000 in
set_option maxRecDepth 100000 in
theorem kX0_size (l : Launch) (D : va_G) (cI cZ cL : ClassId) (h_row a_arr : Nat) (sz : Int32)  (N : Nat) {r : Int32} (h : fX0_size N sz  = some r) : Met l yX0_size wsX0_size rmX0_size (PR D cI cZ cL [.ref h_row] [(h_row, .inr (0, [.ref a_arr, .int sz]))]) (vp_Si (fun z => z = r)) 0 0 (fun _ => False) := by
  refine Met.ofW (cc := cX0_size) (maxL := 1) (ret := (some .int)) (by decide) rfl ?_
  intro p e s m args below meth c s₁ B hml hv
  obtain ⟨rfl, hP, hKK⟩ := hv
  have hK := hKK.1
  have hx := B.exec
  have hb := B.bytes
  have hr := B.returns
  have hts := atoms_spec (ws := wsX0_size) B.pre
  have hown : s.vm.findClass RX0 = some m.cls := findClass_of_methodNamed B.named
  have hlocks := B.notSynchronized
  have hl := lv_entry ([.ref h_row]) (n := 1) (Nat.le_of_ble_eq_true rfl)
  rw [lg_entry_eq]
  generalize (lg_sl ([.ref h_row]) ++ List.replicate (1 - (lg_sl ([.ref h_row])).length) Slot.unset).toArray = ls at hl ⊢
  have hl : lv_has ls 1 [(0, .ref h_row)] := hl
  obtain ⟨QQ, hQQ⟩ : ∃ Z, Z = MQ below (vp_Si (fun z => z = r)) ([.ref h_row] : List Value).toArray s 0 0 (fun _ => False) := ⟨_, rfl⟩
  rw [← hQQ]
  unfold fX0_size at h
  refine lv_aload_n hx hb dX0_size_0 rfl (lv_at hl 0 rfl) ?_
  refine va_get (D := D) (ci := 0) (v := .int sz) (C := RX0) (T := TX0) (N := 2) hx hb hts inX0_size_X0 hown hK hP 0 rfl rfl 1 (by decide) (hts _ lkX0_size_0) (fun _ h9 => h9) rfl dX0_size_1 ?_
  rw [hQQ]
  exact W.iret (v := sz) hx hb hr (fun t ht hW => ⟨_, rfl, Option.some.inj h, ht⟩) (fun q hq => absurd hq List.not_mem_nil) dX0_size_4

def fX0_get (N : Nat) (sz : Int32) (rn : Nat) (arr : Nat → Int32) (p0 : Int32) : Option ((Int32)) :=
  gin p0 rn (some (arr p0.toNatClampNeg))
set_option maxRecDepth 100000 in
theorem inX0_get_X0 : ∀ w ∈ wsX00, w ∈ wsX0_get := by decide +kernel
set_option maxRecDepth 100000 in
theorem lkX0_get_0 : (.fieldLink RX0 7 "Switchlog$ActRow" "acts" "[I" : Cond) ∈ wsX0_get := by decide +kernel
abbrev rmX0_get : Room := { frames := 0, cells := 0, slots := 0, locals := 0 }
set_option maxHeartbeats 4000000 in
set_option maxRecDepth 100000 in
theorem kX0_get (l : Launch) (D : va_G) (cI cZ cL : ClassId) (h_row h_arr : Nat) (sz : Int32) (rn : Nat) (arr : Nat → Int32) (p0 : Int32) (N : Nat) {r : Int32} (h : fX0_get N sz rn arr p0 = some r) : Met l yX0_get wsX0_get rmX0_get (PR D cI cZ cL [.ref h_row, .int p0] [(h_row, .inr (0, [.ref h_arr, .int sz])), (h_arr, .inl (cI, rn, .inl arr))]) (vp_Si (fun z => z = r)) 0 0 (fun _ => False) := by
  refine Met.ofW (cc := cX0_get) (maxL := 2) (ret := (some .int)) (by decide) rfl ?_
  intro p e s m args below meth c s₁ B hml hv
  obtain ⟨rfl, hP, hKK⟩ := hv
  have hK := hKK.1
  have hx := B.exec
  have hb := B.bytes
  have hr := B.returns
  have hts := atoms_spec (ws := wsX0_get) B.pre
  have hown : s.vm.findClass RX0 = some m.cls := findClass_of_methodNamed B.named
  have hlocks := B.notSynchronized
  have hl := lv_entry ([.ref h_row, .int p0]) (n := 2) (Nat.le_of_ble_eq_true rfl)
  rw [lg_entry_eq]
  generalize (lg_sl ([.ref h_row, .int p0]) ++ List.replicate (2 - (lg_sl ([.ref h_row, .int p0])).length) Slot.unset).toArray = ls at hl ⊢
  have hl : lv_has ls 2 [(0, .ref h_row), (1, .int p0)] := hl
  obtain ⟨QQ, hQQ⟩ : ∃ Z, Z = MQ below (vp_Si (fun z => z = r)) ([.ref h_row, .int p0] : List Value).toArray s 0 0 (fun _ => False) := ⟨_, rfl⟩
  rw [← hQQ]
  unfold fX0_get at h
  refine lv_aload_n hx hb dX0_get_0 rfl (lv_at hl 0 rfl) ?_
  refine va_get (D := D) (ci := 0) (v := .ref h_arr) (C := RX0) (T := TX0) (N := 2) hx hb hts inX0_get_X0 hown hK hP 0 rfl rfl 0 (by decide) (hts _ lkX0_get_0) (fun _ h9 => h9) rfl dX0_get_1 ?_
  refine lv_iload_n hx hb dX0_get_4 rfl (lv_at hl 1 rfl) ?_
  obtain ⟨hi1, h⟩ := gin_e h
  refine va_iald hx hb hK hP 1 0 rfl rfl hi1 dX0_get_5 ?_
  rw [hQQ]
  exact W.iret (v := arr p0.toNatClampNeg) hx hb hr (fun t ht hW => ⟨_, rfl, Option.some.inj h, ht⟩) (fun q hq => absurd hq List.not_mem_nil) dX0_get_6

def fX0_latest (N : Nat) (sz : Int32) (rn : Nat) (arr : Nat → Int32) (p0 : Int32) : Option ((Int32)) :=
  gin ((sz - 1) - p0) rn (some (arr ((sz - 1) - p0).toNatClampNeg))
set_option maxRecDepth 100000 in
theorem inX0_latest_X0 : ∀ w ∈ wsX00, w ∈ wsX0_latest := by decide +kernel
set_option maxRecDepth 100000 in
theorem lkX0_latest_0 : (.fieldLink RX0 7 "Switchlog$ActRow" "acts" "[I" : Cond) ∈ wsX0_latest := by decide +kernel
set_option maxRecDepth 100000 in
theorem lkX0_latest_1 : (.fieldLink RX0 13 "Switchlog$ActRow" "size" "I" : Cond) ∈ wsX0_latest := by decide +kernel
abbrev rmX0_latest : Room := { frames := 0, cells := 0, slots := 0, locals := 0 }
set_option maxHeartbeats 4000000 in
set_option maxRecDepth 100000 in
theorem kX0_latest (l : Launch) (D : va_G) (cI cZ cL : ClassId) (h_row h_arr : Nat) (sz : Int32) (rn : Nat) (arr : Nat → Int32) (p0 : Int32) (N : Nat) {r : Int32} (h : fX0_latest N sz rn arr p0 = some r) : Met l yX0_latest wsX0_latest rmX0_latest (PR D cI cZ cL [.ref h_row, .int p0] [(h_row, .inr (0, [.ref h_arr, .int sz])), (h_arr, .inl (cI, rn, .inl arr))]) (vp_Si (fun z => z = r)) 0 0 (fun _ => False) := by
  refine Met.ofW (cc := cX0_latest) (maxL := 2) (ret := (some .int)) (by decide) rfl ?_
  intro p e s m args below meth c s₁ B hml hv
  obtain ⟨rfl, hP, hKK⟩ := hv
  have hK := hKK.1
  have hx := B.exec
  have hb := B.bytes
  have hr := B.returns
  have hts := atoms_spec (ws := wsX0_latest) B.pre
  have hown : s.vm.findClass RX0 = some m.cls := findClass_of_methodNamed B.named
  have hlocks := B.notSynchronized
  have hl := lv_entry ([.ref h_row, .int p0]) (n := 2) (Nat.le_of_ble_eq_true rfl)
  rw [lg_entry_eq]
  generalize (lg_sl ([.ref h_row, .int p0]) ++ List.replicate (2 - (lg_sl ([.ref h_row, .int p0])).length) Slot.unset).toArray = ls at hl ⊢
  have hl : lv_has ls 2 [(0, .ref h_row), (1, .int p0)] := hl
  obtain ⟨QQ, hQQ⟩ : ∃ Z, Z = MQ below (vp_Si (fun z => z = r)) ([.ref h_row, .int p0] : List Value).toArray s 0 0 (fun _ => False) := ⟨_, rfl⟩
  rw [← hQQ]
  unfold fX0_latest at h
  refine lv_aload_n hx hb dX0_latest_0 rfl (lv_at hl 0 rfl) ?_
  refine va_get (D := D) (ci := 0) (v := .ref h_arr) (C := RX0) (T := TX0) (N := 2) hx hb hts inX0_latest_X0 hown hK hP 0 rfl rfl 0 (by decide) (hts _ lkX0_latest_0) (fun _ h9 => h9) rfl dX0_latest_1 ?_
  refine lv_aload_n hx hb dX0_latest_4 rfl (lv_at hl 0 rfl) ?_
  refine va_get (D := D) (ci := 0) (v := .int sz) (C := RX0) (T := TX0) (N := 2) hx hb hts inX0_latest_X0 hown hK hP 0 rfl rfl 1 (by decide) (hts _ lkX0_latest_1) (fun _ h9 => h9) rfl dX0_latest_5 ?_
  refine lv_iconst (v := 1) hx hb dX0_latest_8 (by decide) ?_
  refine lv_isub hx hb dX0_latest_9 ?_
  refine lv_iload_n hx hb dX0_latest_10 rfl (lv_at hl 1 rfl) ?_
  refine lv_isub hx hb dX0_latest_11 ?_
  obtain ⟨hi1, h⟩ := gin_e h
  refine va_iald hx hb hK hP 1 0 rfl rfl hi1 dX0_latest_12 ?_
  rw [hQQ]
  exact W.iret (v := arr ((sz - 1) - p0).toNatClampNeg) hx hb hr (fun t ht hW => ⟨_, rfl, Option.some.inj h, ht⟩) (fun q hq => absurd hq List.not_mem_nil) dX0_latest_13

def fX0_count (N : Nat) (sz : Int32) (rn : Nat) (arr : Nat → Int32) (p0 : Int32) : Option ((Int32)) :=
  it2 (fun g4_3 (x1 : Int32) (x2 : Int32) => (if sz ≤ x1 then some x2 else gin x1 rn ((if (arr x1.toNatClampNeg) = p0 then g4_3 (x1 + 1) (x2 + 1) else g4_3 (x1 + 1) (x2 + 0))))) N 0 0
set_option maxRecDepth 100000 in
theorem inX0_count_X0 : ∀ w ∈ wsX00, w ∈ wsX0_count := by decide +kernel
set_option maxRecDepth 100000 in
theorem lkX0_count_0 : (.fieldLink RX0 13 "Switchlog$ActRow" "size" "I" : Cond) ∈ wsX0_count := by decide +kernel
set_option maxRecDepth 100000 in
theorem lkX0_count_1 : (.fieldLink RX0 7 "Switchlog$ActRow" "acts" "[I" : Cond) ∈ wsX0_count := by decide +kernel
abbrev rmX0_count : Room := { frames := 0, cells := 0, slots := 0, locals := 0 }
set_option maxHeartbeats 4000000 in
set_option maxRecDepth 100000 in
theorem kX0_count (l : Launch) (D : va_G) (cI cZ cL : ClassId) (h_row h_arr : Nat) (sz : Int32) (rn : Nat) (arr : Nat → Int32) (p0 : Int32) (N : Nat) {r : Int32} (h : fX0_count N sz rn arr p0 = some r) : Met l yX0_count wsX0_count rmX0_count (PR D cI cZ cL [.ref h_row, .int p0] [(h_row, .inr (0, [.ref h_arr, .int sz])), (h_arr, .inl (cI, rn, .inl arr))]) (vp_Si (fun z => z = r)) 0 0 (fun _ => False) := by
  refine Met.ofW (cc := cX0_count) (maxL := 4) (ret := (some .int)) (by decide) rfl ?_
  intro p e s m args below meth c s₁ B hml hv
  obtain ⟨rfl, hP, hKK⟩ := hv
  have hK := hKK.1
  have hx := B.exec
  have hb := B.bytes
  have hr := B.returns
  have hts := atoms_spec (ws := wsX0_count) B.pre
  have hown : s.vm.findClass RX0 = some m.cls := findClass_of_methodNamed B.named
  have hlocks := B.notSynchronized
  have hl := lv_entry ([.ref h_row, .int p0]) (n := 4) (Nat.le_of_ble_eq_true rfl)
  rw [lg_entry_eq]
  generalize (lg_sl ([.ref h_row, .int p0]) ++ List.replicate (4 - (lg_sl ([.ref h_row, .int p0])).length) Slot.unset).toArray = ls at hl ⊢
  have hl : lv_has ls 4 [(0, .ref h_row), (1, .int p0)] := hl
  obtain ⟨QQ, hQQ⟩ : ∃ Z, Z = MQ below (vp_Si (fun z => z = r)) ([.ref h_row, .int p0] : List Value).toArray s 0 0 (fun _ => False) := ⟨_, rfl⟩
  rw [← hQQ]
  unfold fX0_count at h
  refine lv_iconst (v := 0) hx hb dX0_count_0 (by decide) ?_
  refine lv_istore_n (lv' := [(2, .int 0), (0, .ref h_row), (1, .int p0)]) hx hb dX0_count_1 rfl hl (by decide) rfl (fun ls hl => ?_)
  refine lv_iconst (v := 0) hx hb dX0_count_2 (by decide) ?_
  refine lv_istore_n (lv' := [(3, .int 0), (2, .int 0), (0, .ref h_row), (1, .int p0)]) hx hb dX0_count_3 rfl hl (by decide) rfl (fun ls hl => ?_)
  refine it2_e (fun (x1 : Int32) (x2 : Int32) => ∀ ls : Array Slot, lv_has ls 4 [(3, .int x1), (2, .int x2), (0, .ref h_row), (1, .int p0)] → W p l e (headSpec wsX0_count rmX0_count).room s m (([.ref h_row, .int p0] : List Value).toArray) below meth c s.heap [] 0 0 QQ (F0 m 4 ls [])) (fun g4_3 hg4_4 x1 x2 h ls hl => ?_) N 0 0 h ls (lv_sub hl [0, 1, 2, 3] rfl)
  refine lv_iload_n hx hb dX0_count_4 rfl (lv_at hl 0 rfl) ?_
  refine lv_aload_n hx hb dX0_count_5 rfl (lv_at hl 2 rfl) ?_
  refine va_get (D := D) (ci := 0) (v := .int sz) (C := RX0) (T := TX0) (N := 2) hx hb hts inX0_count_X0 hown hK hP 0 rfl rfl 1 (by decide) (hts _ lkX0_count_0) (fun _ h9 => h9) rfl dX0_count_6 ?_
  refine lv_icmp_ge (tgt := 36) hx hb dX0_count_9 (by decide) (fun c5 => ?_) (fun c5 => ?_)
  · have h := it_t h c5
    refine lv_iload_n hx hb dX0_count_36 rfl (lv_at hl 1 rfl) ?_
    rw [hQQ]
    exact W.iret (v := x2) hx hb hr (fun t ht hW => ⟨_, rfl, Option.some.inj h, ht⟩) (fun q hq => absurd hq List.not_mem_nil) dX0_count_37
  · have h := it_f h c5
    refine lv_iload_n hx hb dX0_count_12 rfl (lv_at hl 1 rfl) ?_
    refine lv_aload_n hx hb dX0_count_13 rfl (lv_at hl 2 rfl) ?_
    refine va_get (D := D) (ci := 0) (v := .ref h_arr) (C := RX0) (T := TX0) (N := 2) hx hb hts inX0_count_X0 hown hK hP 0 rfl rfl 0 (by decide) (hts _ lkX0_count_1) (fun _ h9 => h9) rfl dX0_count_14 ?_
    refine lv_iload_n hx hb dX0_count_17 rfl (lv_at hl 0 rfl) ?_
    obtain ⟨hi6, h⟩ := gin_e h
    refine va_iald hx hb hK hP 1 0 rfl rfl hi6 dX0_count_18 ?_
    refine lv_iload_n hx hb dX0_count_19 rfl (lv_at hl 3 rfl) ?_
    refine lv_icmp_ne (tgt := 27) hx hb dX0_count_20 (by decide) (fun c7 => ?_) (fun c7 => ?_)
    · have h := it_f h c7
      refine lv_iconst (v := 0) hx hb dX0_count_27 (by decide) ?_
      refine lv_iadd hx hb dX0_count_28 ?_
      refine lv_istore_n (lv' := [(2, .int (x2 + 0)), (3, .int x1), (0, .ref h_row), (1, .int p0)]) hx hb dX0_count_29 rfl hl (by decide) rfl (fun ls hl => ?_)
      refine lv_iinc (v := x1 + 1) (lv' := [(3, .int (x1 + 1)), (2, .int (x2 + 0)), (0, .ref h_row), (1, .int p0)]) hx hb dX0_count_30 hl (k := 1) rfl rfl (by decide) rfl (fun ls hl => ?_)
      refine lv_goto (tgt := 4) hx hb dX0_count_33 (by decide) ?_
      exact hg4_4 (x1 + 1) (x2 + 0) h ls (lv_sub hl [0, 1, 2, 3] rfl)
    · have h := it_t h c7
      refine lv_iconst (v := 1) hx hb dX0_count_23 (by decide) ?_
      refine lv_goto (tgt := 28) hx hb dX0_count_24 (by decide) ?_
      refine lv_iadd hx hb dX0_count_28 ?_
      refine lv_istore_n (lv' := [(2, .int (x2 + 1)), (3, .int x1), (0, .ref h_row), (1, .int p0)]) hx hb dX0_count_29 rfl hl (by decide) rfl (fun ls hl => ?_)
      refine lv_iinc (v := x1 + 1) (lv' := [(3, .int (x1 + 1)), (2, .int (x2 + 1)), (0, .ref h_row), (1, .int p0)]) hx hb dX0_count_30 hl (k := 1) rfl rfl (by decide) rfl (fun ls hl => ?_)
      refine lv_goto (tgt := 4) hx hb dX0_count_33 (by decide) ?_
      exact hg4_4 (x1 + 1) (x2 + 1) h ls (lv_sub hl [0, 1, 2, 3] rfl)

def fX0_append (N : Nat) (sz : Int32) (rn : Nat) (arr : Nat → Int32) (p0 : Int32) : Option ((Nat → Int32) × (Int32)) :=
  gin sz rn (some (upd arr sz.toNatClampNeg p0, sz + 1))
set_option maxRecDepth 100000 in
theorem inX0_append_X0 : ∀ w ∈ wsX00, w ∈ wsX0_append := by decide +kernel
set_option maxRecDepth 100000 in
theorem lkX0_append_0 : (.fieldLink RX0 7 "Switchlog$ActRow" "acts" "[I" : Cond) ∈ wsX0_append := by decide +kernel
set_option maxRecDepth 100000 in
theorem lkX0_append_1 : (.fieldLink RX0 13 "Switchlog$ActRow" "size" "I" : Cond) ∈ wsX0_append := by decide +kernel
abbrev rmX0_append : Room := { frames := 0, cells := 0, slots := 0, locals := 0 }
set_option maxHeartbeats 4000000 in
set_option maxRecDepth 100000 in
theorem kX0_append (l : Launch) (D : va_G) (cI cZ cL : ClassId) (sz0 : Nat) (h_row h_arr : Nat) (sz : Int32) (rn : Nat) (arr : Nat → Int32) (p0 : Int32) (N : Nat) {r_0 : Nat → Int32} {r_1 : Int32} (h : fX0_append N sz rn arr p0 = some (r_0, r_1)) : Met l yX0_append wsX0_append rmX0_append (PM D cI cZ cL [.ref h_row, .int p0] [(h_row, .inr (0, [.ref h_arr, .int sz])), (h_arr, .inl (cI, rn, .inl arr))] sz0) (QM D none (va_A [(h_row, .inr (0, [.ref h_arr, .int sz])), (h_arr, .inl (cI, rn, .inl arr))] sz0) [(h_row, .inr (0, [.ref h_arr, .int r_1])), (h_arr, .inl (cI, rn, .inl r_0))]) 0 0 (va_A [(h_row, .inr (0, [.ref h_arr, .int sz])), (h_arr, .inl (cI, rn, .inl arr))] sz0) := by
  refine Met.ofW (cc := cX0_append) (maxL := 2) (ret := none) (by decide) rfl ?_
  intro p e s m args below meth c s₁ B hml hv
  obtain ⟨rfl, hsz, hP, hKK, hD0⟩ := hv
  have hK := hKK.1
  have hx := B.exec
  have hb := B.bytes
  have hr := B.returns
  have hts := atoms_spec (ws := wsX0_append) B.pre
  have hown : s.vm.findClass RX0 = some m.cls := findClass_of_methodNamed B.named
  have hlocks := B.notSynchronized
  subst hsz
  have hD := hD0.self (sz := s.heap.size)
  generalize hAe : va_A [(h_row, .inr (0, [.ref h_arr, .int sz])), (h_arr, .inl (cI, rn, .inl arr))] s.heap.size = A at hD ⊢
  have hA : ∀ q : Nat, s.heap.size ≤ q → A q := fun q h => by rw [← hAe]; exact Or.inr h
  have hS : va_S A s.heap s.heap [] := va_S.rf
  have hl := lv_entry ([.ref h_row, .int p0]) (n := 2) (Nat.le_of_ble_eq_true rfl)
  rw [lg_entry_eq]
  generalize (lg_sl ([.ref h_row, .int p0]) ++ List.replicate (2 - (lg_sl ([.ref h_row, .int p0])).length) Slot.unset).toArray = ls at hl ⊢
  have hl : lv_has ls 2 [(0, .ref h_row), (1, .int p0)] := hl
  obtain ⟨QQ, hQQ⟩ : ∃ Z, Z = MQ below (QM D none A [(h_row, .inr (0, [.ref h_arr, .int r_1])), (h_arr, .inl (cI, rn, .inl r_0))]) ([.ref h_row, .int p0] : List Value).toArray s 0 0 A := ⟨_, rfl⟩
  rw [← hQQ]
  obtain ⟨H, locs, hHe, hLe⟩ : ∃ (H : Heap) (locs : List Loc), H = s.heap ∧ locs = [] := ⟨_, _, rfl, rfl⟩
  have hP : va_P D vwCl [(h_row, .inr (0, [.ref h_arr, .int sz])), (h_arr, .inl (cI, rn, .inl arr))] H := by rw [hHe]; exact hP
  have hS : va_S A s.heap H locs := by rw [hHe, hLe]; exact hS
  have hW0 : ∀ QQ : State → Prop, W p l e (headSpec wsX0_append rmX0_append).room s m (([.ref h_row, .int p0] : List Value).toArray) below meth c H locs 0 0 QQ (F0 m 0 ls []) → W p l e (headSpec wsX0_append rmX0_append).room s m (([.ref h_row, .int p0] : List Value).toArray) below meth c s.heap [] 0 0 QQ (F0 m 0 ls []) := by rw [hHe, hLe]; exact fun _ h => h
  refine hW0 _ ?_
  clear hW0
  unfold fX0_append at h
  refine lv_aload_n hx hb dX0_append_0 rfl (lv_at hl 0 rfl) ?_
  refine va_get (D := D) (ci := 0) (v := .ref h_arr) (C := RX0) (T := TX0) (N := 2) hx hb hts inX0_append_X0 hown hK hP 0 rfl rfl 0 (by decide) (hts _ lkX0_append_0) (fun _ h9 => h9) rfl dX0_append_1 ?_
  refine lv_aload_n hx hb dX0_append_4 rfl (lv_at hl 0 rfl) ?_
  refine va_get (D := D) (ci := 0) (v := .int sz) (C := RX0) (T := TX0) (N := 2) hx hb hts inX0_append_X0 hown hK hP 0 rfl rfl 1 (by decide) (hts _ lkX0_append_1) (fun _ h9 => h9) rfl dX0_append_5 ?_
  refine lv_iload_n hx hb dX0_append_8 rfl (lv_at hl 1 rfl) ?_
  obtain ⟨hi1, h⟩ := gin_e h
  refine va_iast hx hb hK hP hD hS 1 0 rfl rfl hi1 dX0_append_9 (fun H locs hP hD hS => ?_)
  have hP : va_P D vwCl [(h_row, .inr (0, [.ref h_arr, .int sz])), (h_arr, .inl (cI, rn, .inl (upd arr sz.toNatClampNeg p0)))] H := hP
  have hD : va_D A [(h_row, .inr (0, [.ref h_arr, .int sz])), (h_arr, .inl (cI, rn, .inl (upd arr sz.toNatClampNeg p0)))] := hD
  refine lv_aload_n hx hb dX0_append_10 rfl (lv_at hl 0 rfl) ?_
  refine lv_dup hx hb dX0_append_11 rfl ?_
  refine va_get (D := D) (ci := 0) (v := .int sz) (C := RX0) (T := TX0) (N := 2) hx hb hts inX0_append_X0 hown hK hP 0 rfl rfl 1 (by decide) (hts _ lkX0_append_1) (fun _ h9 => h9) rfl dX0_append_12 ?_
  refine lv_iconst (v := 1) hx hb dX0_append_15 (by decide) ?_
  refine lv_iadd hx hb dX0_append_16 ?_
  refine va_put (D := D) (ci := 0) (v := .int (sz + 1)) (ty := .int) (C := RX0) (T := TX0) (N := 2) hx hb hts inX0_append_X0 tyX0 tyX0_ok nmX0 hown hK hP hD hS 0 rfl rfl 1 (by decide) (hts _ lkX0_append_1) (fun _ h9 => h9) rfl (by decide +kernel) rfl rfl (Nat.le_of_ble_eq_true rfl) dX0_append_17 (fun H locs hP hD hS => ?_)
  have hP : va_P D vwCl [(h_row, .inr (0, [.ref h_arr, .int (sz + 1)])), (h_arr, .inl (cI, rn, .inl (upd arr sz.toNatClampNeg p0)))] H := hP
  have hD : va_D A [(h_row, .inr (0, [.ref h_arr, .int (sz + 1)])), (h_arr, .inl (cI, rn, .inl (upd arr sz.toNatClampNeg p0)))] := hD
  cases h
  rw [hQQ]
  exact W.vret hx hb hr (fun t ht hW => ⟨rfl, by rw [ht]; exact hP, hD, hS.F ht⟩) hS.2.2 dX0_append_20

def fX0_dropLast (N : Nat) (sz : Int32) : Option ((Int32)) :=
  some (sz - 1)
set_option maxRecDepth 100000 in
theorem inX0_dropLast_X0 : ∀ w ∈ wsX00, w ∈ wsX0_dropLast := by decide +kernel
set_option maxRecDepth 100000 in
theorem lkX0_dropLast_0 : (.fieldLink RX0 13 "Switchlog$ActRow" "size" "I" : Cond) ∈ wsX0_dropLast := by decide +kernel
abbrev rmX0_dropLast : Room := { frames := 0, cells := 0, slots := 0, locals := 0 }
set_option maxHeartbeats 4000000 in
set_option maxRecDepth 100000 in
theorem kX0_dropLast (l : Launch) (D : va_G) (cI cZ cL : ClassId) (sz0 : Nat) (h_row a_arr : Nat) (sz : Int32)  (N : Nat) {r_0 : Int32} (h : fX0_dropLast N sz  = some r_0) : Met l yX0_dropLast wsX0_dropLast rmX0_dropLast (PM D cI cZ cL [.ref h_row] [(h_row, .inr (0, [.ref a_arr, .int sz]))] sz0) (QM D none (va_A [(h_row, .inr (0, [.ref a_arr, .int sz]))] sz0) [(h_row, .inr (0, [.ref a_arr, .int r_0]))]) 0 0 (va_A [(h_row, .inr (0, [.ref a_arr, .int sz]))] sz0) := by
  refine Met.ofW (cc := cX0_dropLast) (maxL := 1) (ret := none) (by decide) rfl ?_
  intro p e s m args below meth c s₁ B hml hv
  obtain ⟨rfl, hsz, hP, hKK, hD0⟩ := hv
  have hK := hKK.1
  have hx := B.exec
  have hb := B.bytes
  have hr := B.returns
  have hts := atoms_spec (ws := wsX0_dropLast) B.pre
  have hown : s.vm.findClass RX0 = some m.cls := findClass_of_methodNamed B.named
  have hlocks := B.notSynchronized
  subst hsz
  have hD := hD0.self (sz := s.heap.size)
  generalize hAe : va_A [(h_row, .inr (0, [.ref a_arr, .int sz]))] s.heap.size = A at hD ⊢
  have hA : ∀ q : Nat, s.heap.size ≤ q → A q := fun q h => by rw [← hAe]; exact Or.inr h
  have hS : va_S A s.heap s.heap [] := va_S.rf
  have hl := lv_entry ([.ref h_row]) (n := 1) (Nat.le_of_ble_eq_true rfl)
  rw [lg_entry_eq]
  generalize (lg_sl ([.ref h_row]) ++ List.replicate (1 - (lg_sl ([.ref h_row])).length) Slot.unset).toArray = ls at hl ⊢
  have hl : lv_has ls 1 [(0, .ref h_row)] := hl
  obtain ⟨QQ, hQQ⟩ : ∃ Z, Z = MQ below (QM D none A [(h_row, .inr (0, [.ref a_arr, .int r_0]))]) ([.ref h_row] : List Value).toArray s 0 0 A := ⟨_, rfl⟩
  rw [← hQQ]
  obtain ⟨H, locs, hHe, hLe⟩ : ∃ (H : Heap) (locs : List Loc), H = s.heap ∧ locs = [] := ⟨_, _, rfl, rfl⟩
  have hP : va_P D vwCl [(h_row, .inr (0, [.ref a_arr, .int sz]))] H := by rw [hHe]; exact hP
  have hS : va_S A s.heap H locs := by rw [hHe, hLe]; exact hS
  have hW0 : ∀ QQ : State → Prop, W p l e (headSpec wsX0_dropLast rmX0_dropLast).room s m (([.ref h_row] : List Value).toArray) below meth c H locs 0 0 QQ (F0 m 0 ls []) → W p l e (headSpec wsX0_dropLast rmX0_dropLast).room s m (([.ref h_row] : List Value).toArray) below meth c s.heap [] 0 0 QQ (F0 m 0 ls []) := by rw [hHe, hLe]; exact fun _ h => h
  refine hW0 _ ?_
  clear hW0
  unfold fX0_dropLast at h
  refine lv_aload_n hx hb dX0_dropLast_0 rfl (lv_at hl 0 rfl) ?_
  refine lv_dup hx hb dX0_dropLast_1 rfl ?_
  refine va_get (D := D) (ci := 0) (v := .int sz) (C := RX0) (T := TX0) (N := 2) hx hb hts inX0_dropLast_X0 hown hK hP 0 rfl rfl 1 (by decide) (hts _ lkX0_dropLast_0) (fun _ h9 => h9) rfl dX0_dropLast_2 ?_
  refine lv_iconst (v := 1) hx hb dX0_dropLast_5 (by decide) ?_
  refine lv_isub hx hb dX0_dropLast_6 ?_
  refine va_put (D := D) (ci := 0) (v := .int (sz - 1)) (ty := .int) (C := RX0) (T := TX0) (N := 2) hx hb hts inX0_dropLast_X0 tyX0 tyX0_ok nmX0 hown hK hP hD hS 0 rfl rfl 1 (by decide) (hts _ lkX0_dropLast_0) (fun _ h9 => h9) rfl (by decide +kernel) rfl rfl (Nat.le_of_ble_eq_true rfl) dX0_dropLast_7 (fun H locs hP hD hS => ?_)
  have hP : va_P D vwCl [(h_row, .inr (0, [.ref a_arr, .int (sz - 1)]))] H := hP
  have hD : va_D A [(h_row, .inr (0, [.ref a_arr, .int (sz - 1)]))] := hD
  cases h
  rw [hQQ]
  exact W.vret hx hb hr (fun t ht hW => ⟨rfl, by rw [ht]; exact hP, hD, hS.F ht⟩) hS.2.2 dX0_dropLast_10

def fX0_dropFirst (N : Nat) (sz : Int32) (rn : Nat) (arr : Nat → Int32) (p0 : Int32) : Option ((Nat → Int32) × (Int32)) :=
  it3 (fun g2_4 (x1 : Int32) (w2 : Nat → Int32) (w3 : Int32) => (if w3 ≤ x1 then some (w2, w3 - p0) else gin x1 rn (gin (x1 - p0) rn (g2_4 (x1 + 1) (upd w2 (x1 - p0).toNatClampNeg (w2 x1.toNatClampNeg)) w3)))) N p0 arr sz
set_option maxRecDepth 100000 in
theorem inX0_dropFirst_X0 : ∀ w ∈ wsX00, w ∈ wsX0_dropFirst := by decide +kernel
set_option maxRecDepth 100000 in
theorem lkX0_dropFirst_0 : (.fieldLink RX0 13 "Switchlog$ActRow" "size" "I" : Cond) ∈ wsX0_dropFirst := by decide +kernel
set_option maxRecDepth 100000 in
theorem lkX0_dropFirst_1 : (.fieldLink RX0 7 "Switchlog$ActRow" "acts" "[I" : Cond) ∈ wsX0_dropFirst := by decide +kernel
abbrev rmX0_dropFirst : Room := { frames := 0, cells := 0, slots := 0, locals := 0 }
set_option maxHeartbeats 4000000 in
set_option maxRecDepth 100000 in
theorem kX0_dropFirst (l : Launch) (D : va_G) (cI cZ cL : ClassId) (sz0 : Nat) (h_row h_arr : Nat) (sz : Int32) (rn : Nat) (arr : Nat → Int32) (p0 : Int32) (N : Nat) {r_0 : Nat → Int32} {r_1 : Int32} (h : fX0_dropFirst N sz rn arr p0 = some (r_0, r_1)) : Met l yX0_dropFirst wsX0_dropFirst rmX0_dropFirst (PM D cI cZ cL [.ref h_row, .int p0] [(h_row, .inr (0, [.ref h_arr, .int sz])), (h_arr, .inl (cI, rn, .inl arr))] sz0) (QM D none (va_A [(h_row, .inr (0, [.ref h_arr, .int sz])), (h_arr, .inl (cI, rn, .inl arr))] sz0) [(h_row, .inr (0, [.ref h_arr, .int r_1])), (h_arr, .inl (cI, rn, .inl r_0))]) 0 0 (va_A [(h_row, .inr (0, [.ref h_arr, .int sz])), (h_arr, .inl (cI, rn, .inl arr))] sz0) := by
  refine Met.ofW (cc := cX0_dropFirst) (maxL := 3) (ret := none) (by decide) rfl ?_
  intro p e s m args below meth c s₁ B hml hv
  obtain ⟨rfl, hsz, hP, hKK, hD0⟩ := hv
  have hK := hKK.1
  have hx := B.exec
  have hb := B.bytes
  have hr := B.returns
  have hts := atoms_spec (ws := wsX0_dropFirst) B.pre
  have hown : s.vm.findClass RX0 = some m.cls := findClass_of_methodNamed B.named
  have hlocks := B.notSynchronized
  subst hsz
  have hD := hD0.self (sz := s.heap.size)
  generalize hAe : va_A [(h_row, .inr (0, [.ref h_arr, .int sz])), (h_arr, .inl (cI, rn, .inl arr))] s.heap.size = A at hD ⊢
  have hA : ∀ q : Nat, s.heap.size ≤ q → A q := fun q h => by rw [← hAe]; exact Or.inr h
  have hS : va_S A s.heap s.heap [] := va_S.rf
  have hl := lv_entry ([.ref h_row, .int p0]) (n := 3) (Nat.le_of_ble_eq_true rfl)
  rw [lg_entry_eq]
  generalize (lg_sl ([.ref h_row, .int p0]) ++ List.replicate (3 - (lg_sl ([.ref h_row, .int p0])).length) Slot.unset).toArray = ls at hl ⊢
  have hl : lv_has ls 3 [(0, .ref h_row), (1, .int p0)] := hl
  obtain ⟨QQ, hQQ⟩ : ∃ Z, Z = MQ below (QM D none A [(h_row, .inr (0, [.ref h_arr, .int r_1])), (h_arr, .inl (cI, rn, .inl r_0))]) ([.ref h_row, .int p0] : List Value).toArray s 0 0 A := ⟨_, rfl⟩
  rw [← hQQ]
  obtain ⟨H, locs, hHe, hLe⟩ : ∃ (H : Heap) (locs : List Loc), H = s.heap ∧ locs = [] := ⟨_, _, rfl, rfl⟩
  have hP : va_P D vwCl [(h_row, .inr (0, [.ref h_arr, .int sz])), (h_arr, .inl (cI, rn, .inl arr))] H := by rw [hHe]; exact hP
  have hS : va_S A s.heap H locs := by rw [hHe, hLe]; exact hS
  have hW0 : ∀ QQ : State → Prop, W p l e (headSpec wsX0_dropFirst rmX0_dropFirst).room s m (([.ref h_row, .int p0] : List Value).toArray) below meth c H locs 0 0 QQ (F0 m 0 ls []) → W p l e (headSpec wsX0_dropFirst rmX0_dropFirst).room s m (([.ref h_row, .int p0] : List Value).toArray) below meth c s.heap [] 0 0 QQ (F0 m 0 ls []) := by rw [hHe, hLe]; exact fun _ h => h
  refine hW0 _ ?_
  clear hW0
  unfold fX0_dropFirst at h
  refine lv_iload_n hx hb dX0_dropFirst_0 rfl (lv_at hl 1 rfl) ?_
  refine lv_istore_n (lv' := [(2, .int p0), (0, .ref h_row), (1, .int p0)]) hx hb dX0_dropFirst_1 rfl hl (by decide) rfl (fun ls hl => ?_)
  refine it3_e (fun (x1 : Int32) (w2 : Nat → Int32) (w3 : Int32) => ∀ (H : Heap) (locs : List Loc) (ls : Array Slot), va_P D vwCl [(h_row, .inr (0, [.ref h_arr, .int w3])), (h_arr, .inl (cI, rn, .inl w2))] H → va_D A [(h_row, .inr (0, [.ref h_arr, .int w3])), (h_arr, .inl (cI, rn, .inl w2))] → va_S A s.heap H locs → lv_has ls 3 [(2, .int x1), (0, .ref h_row), (1, .int p0)] → W p l e (headSpec wsX0_dropFirst rmX0_dropFirst).room s m (([.ref h_row, .int p0] : List Value).toArray) below meth c H locs 0 0 QQ (F0 m 2 ls [])) (fun g2_4 hg2_5 x1 w2 w3 h H locs ls hP hD hS hl => ?_) N p0 arr sz h H locs ls hP hD hS (lv_sub hl [0, 1, 2] rfl)
  refine lv_iload_n hx hb dX0_dropFirst_2 rfl (lv_at hl 0 rfl) ?_
  refine lv_aload_n hx hb dX0_dropFirst_3 rfl (lv_at hl 1 rfl) ?_
  refine va_get (D := D) (ci := 0) (v := .int w3) (C := RX0) (T := TX0) (N := 2) hx hb hts inX0_dropFirst_X0 hown hK hP 0 rfl rfl 1 (by decide) (hts _ lkX0_dropFirst_0) (fun _ h9 => h9) rfl dX0_dropFirst_4 ?_
  refine lv_icmp_ge (tgt := 30) hx hb dX0_dropFirst_7 (by decide) (fun c6 => ?_) (fun c6 => ?_)
  · have h := it_t h c6
    refine lv_aload_n hx hb dX0_dropFirst_30 rfl (lv_at hl 1 rfl) ?_
    refine lv_dup hx hb dX0_dropFirst_31 rfl ?_
    refine va_get (D := D) (ci := 0) (v := .int w3) (C := RX0) (T := TX0) (N := 2) hx hb hts inX0_dropFirst_X0 hown hK hP 0 rfl rfl 1 (by decide) (hts _ lkX0_dropFirst_0) (fun _ h9 => h9) rfl dX0_dropFirst_32 ?_
    refine lv_iload_n hx hb dX0_dropFirst_35 rfl (lv_at hl 2 rfl) ?_
    refine lv_isub hx hb dX0_dropFirst_36 ?_
    refine va_put (D := D) (ci := 0) (v := .int (w3 - p0)) (ty := .int) (C := RX0) (T := TX0) (N := 2) hx hb hts inX0_dropFirst_X0 tyX0 tyX0_ok nmX0 hown hK hP hD hS 0 rfl rfl 1 (by decide) (hts _ lkX0_dropFirst_0) (fun _ h9 => h9) rfl (by decide +kernel) rfl rfl (Nat.le_of_ble_eq_true rfl) dX0_dropFirst_37 (fun H locs hP hD hS => ?_)
    have hP : va_P D vwCl [(h_row, .inr (0, [.ref h_arr, .int (w3 - p0)])), (h_arr, .inl (cI, rn, .inl w2))] H := hP
    have hD : va_D A [(h_row, .inr (0, [.ref h_arr, .int (w3 - p0)])), (h_arr, .inl (cI, rn, .inl w2))] := hD
    cases h
    rw [hQQ]
    exact W.vret hx hb hr (fun t ht hW => ⟨rfl, by rw [ht]; exact hP, hD, hS.F ht⟩) hS.2.2 dX0_dropFirst_40
  · have h := it_f h c6
    refine lv_aload_n hx hb dX0_dropFirst_10 rfl (lv_at hl 1 rfl) ?_
    refine va_get (D := D) (ci := 0) (v := .ref h_arr) (C := RX0) (T := TX0) (N := 2) hx hb hts inX0_dropFirst_X0 hown hK hP 0 rfl rfl 0 (by decide) (hts _ lkX0_dropFirst_1) (fun _ h9 => h9) rfl dX0_dropFirst_11 ?_
    refine lv_iload_n hx hb dX0_dropFirst_14 rfl (lv_at hl 0 rfl) ?_
    refine lv_iload_n hx hb dX0_dropFirst_15 rfl (lv_at hl 2 rfl) ?_
    refine lv_isub hx hb dX0_dropFirst_16 ?_
    refine lv_aload_n hx hb dX0_dropFirst_17 rfl (lv_at hl 1 rfl) ?_
    refine va_get (D := D) (ci := 0) (v := .ref h_arr) (C := RX0) (T := TX0) (N := 2) hx hb hts inX0_dropFirst_X0 hown hK hP 0 rfl rfl 0 (by decide) (hts _ lkX0_dropFirst_1) (fun _ h9 => h9) rfl dX0_dropFirst_18 ?_
    refine lv_iload_n hx hb dX0_dropFirst_21 rfl (lv_at hl 0 rfl) ?_
    obtain ⟨hi7, h⟩ := gin_e h
    refine va_iald hx hb hK hP 1 0 rfl rfl hi7 dX0_dropFirst_22 ?_
    obtain ⟨hi8, h⟩ := gin_e h
    refine va_iast hx hb hK hP hD hS 1 0 rfl rfl hi8 dX0_dropFirst_23 (fun H locs hP hD hS => ?_)
    have hP : va_P D vwCl [(h_row, .inr (0, [.ref h_arr, .int w3])), (h_arr, .inl (cI, rn, .inl (upd w2 (x1 - p0).toNatClampNeg (w2 x1.toNatClampNeg))))] H := hP
    have hD : va_D A [(h_row, .inr (0, [.ref h_arr, .int w3])), (h_arr, .inl (cI, rn, .inl (upd w2 (x1 - p0).toNatClampNeg (w2 x1.toNatClampNeg))))] := hD
    refine lv_iinc (v := x1 + 1) (lv' := [(2, .int (x1 + 1)), (0, .ref h_row), (1, .int p0)]) hx hb dX0_dropFirst_24 hl (k := 0) rfl rfl (by decide) rfl (fun ls hl => ?_)
    refine lv_goto (tgt := 2) hx hb dX0_dropFirst_27 (by decide) ?_
    exact hg2_5 (x1 + 1) (upd w2 (x1 - p0).toNatClampNeg (w2 x1.toNatClampNeg)) w3 h H locs ls hP hD hS (lv_sub hl [0, 1, 2] rfl)

def fX1_nodeCount (N : Nat) (nc : Int32) (sc : Int32) (br : Int32) (so : Int32) (lo : Int32) : Option ((Int32)) :=
  some nc
set_option maxRecDepth 100000 in
theorem inX1_nodeCount_X1 : ∀ w ∈ wsX10, w ∈ wsX1_nodeCount := by decide +kernel
set_option maxRecDepth 100000 in
theorem lkX1_nodeCount_0 : (.fieldLink RX1 15 "Switchlog$Net" "nodeCount" "I" : Cond) ∈ wsX1_nodeCount := by decide +kernel
abbrev rmX1_nodeCount : Room := { frames := 0, cells := 0, slots := 0, locals := 0 }
set_option maxHeartbeats 4000000 in
set_option maxRecDepth 100000 in
theorem kX1_nodeCount (l : Launch) (D : va_G) (cI cZ cL : ClassId) (h_net a_ends : Nat) (nc : Int32) (sc : Int32) (br : Int32) (so : Int32) (lo : Int32)  (N : Nat) {r : Int32} (h : fX1_nodeCount N nc sc br so lo  = some r) : Met l yX1_nodeCount wsX1_nodeCount rmX1_nodeCount (PR D cI cZ cL [.ref h_net] [(h_net, .inr (1, [.ref a_ends, .int nc, .int sc, .int br, .int so, .int lo]))]) (vp_Si (fun z => z = r)) 0 0 (fun _ => False) := by
  refine Met.ofW (cc := cX1_nodeCount) (maxL := 1) (ret := (some .int)) (by decide) rfl ?_
  intro p e s m args below meth c s₁ B hml hv
  obtain ⟨rfl, hP, hKK⟩ := hv
  have hK := hKK.1
  have hx := B.exec
  have hb := B.bytes
  have hr := B.returns
  have hts := atoms_spec (ws := wsX1_nodeCount) B.pre
  have hown : s.vm.findClass RX1 = some m.cls := findClass_of_methodNamed B.named
  have hlocks := B.notSynchronized
  have hl := lv_entry ([.ref h_net]) (n := 1) (Nat.le_of_ble_eq_true rfl)
  rw [lg_entry_eq]
  generalize (lg_sl ([.ref h_net]) ++ List.replicate (1 - (lg_sl ([.ref h_net])).length) Slot.unset).toArray = ls at hl ⊢
  have hl : lv_has ls 1 [(0, .ref h_net)] := hl
  obtain ⟨QQ, hQQ⟩ : ∃ Z, Z = MQ below (vp_Si (fun z => z = r)) ([.ref h_net] : List Value).toArray s 0 0 (fun _ => False) := ⟨_, rfl⟩
  rw [← hQQ]
  unfold fX1_nodeCount at h
  refine lv_aload_n hx hb dX1_nodeCount_0 rfl (lv_at hl 0 rfl) ?_
  refine va_get (D := D) (ci := 1) (v := .int nc) (C := RX1) (T := TX1) (N := 6) hx hb hts inX1_nodeCount_X1 hown hK hP 0 rfl rfl 1 (by decide) (hts _ lkX1_nodeCount_0) (fun _ h9 => h9) rfl dX1_nodeCount_1 ?_
  rw [hQQ]
  exact W.iret (v := nc) hx hb hr (fun t ht hW => ⟨_, rfl, Option.some.inj h, ht⟩) (fun q hq => absurd hq List.not_mem_nil) dX1_nodeCount_4

def fX1_switchCount (N : Nat) (nc : Int32) (sc : Int32) (br : Int32) (so : Int32) (lo : Int32) : Option ((Int32)) :=
  some sc
set_option maxRecDepth 100000 in
theorem inX1_switchCount_X1 : ∀ w ∈ wsX10, w ∈ wsX1_switchCount := by decide +kernel
set_option maxRecDepth 100000 in
theorem lkX1_switchCount_0 : (.fieldLink RX1 19 "Switchlog$Net" "switchCount" "I" : Cond) ∈ wsX1_switchCount := by decide +kernel
abbrev rmX1_switchCount : Room := { frames := 0, cells := 0, slots := 0, locals := 0 }
set_option maxHeartbeats 4000000 in
set_option maxRecDepth 100000 in
theorem kX1_switchCount (l : Launch) (D : va_G) (cI cZ cL : ClassId) (h_net a_ends : Nat) (nc : Int32) (sc : Int32) (br : Int32) (so : Int32) (lo : Int32)  (N : Nat) {r : Int32} (h : fX1_switchCount N nc sc br so lo  = some r) : Met l yX1_switchCount wsX1_switchCount rmX1_switchCount (PR D cI cZ cL [.ref h_net] [(h_net, .inr (1, [.ref a_ends, .int nc, .int sc, .int br, .int so, .int lo]))]) (vp_Si (fun z => z = r)) 0 0 (fun _ => False) := by
  refine Met.ofW (cc := cX1_switchCount) (maxL := 1) (ret := (some .int)) (by decide) rfl ?_
  intro p e s m args below meth c s₁ B hml hv
  obtain ⟨rfl, hP, hKK⟩ := hv
  have hK := hKK.1
  have hx := B.exec
  have hb := B.bytes
  have hr := B.returns
  have hts := atoms_spec (ws := wsX1_switchCount) B.pre
  have hown : s.vm.findClass RX1 = some m.cls := findClass_of_methodNamed B.named
  have hlocks := B.notSynchronized
  have hl := lv_entry ([.ref h_net]) (n := 1) (Nat.le_of_ble_eq_true rfl)
  rw [lg_entry_eq]
  generalize (lg_sl ([.ref h_net]) ++ List.replicate (1 - (lg_sl ([.ref h_net])).length) Slot.unset).toArray = ls at hl ⊢
  have hl : lv_has ls 1 [(0, .ref h_net)] := hl
  obtain ⟨QQ, hQQ⟩ : ∃ Z, Z = MQ below (vp_Si (fun z => z = r)) ([.ref h_net] : List Value).toArray s 0 0 (fun _ => False) := ⟨_, rfl⟩
  rw [← hQQ]
  unfold fX1_switchCount at h
  refine lv_aload_n hx hb dX1_switchCount_0 rfl (lv_at hl 0 rfl) ?_
  refine va_get (D := D) (ci := 1) (v := .int sc) (C := RX1) (T := TX1) (N := 6) hx hb hts inX1_switchCount_X1 hown hK hP 0 rfl rfl 2 (by decide) (hts _ lkX1_switchCount_0) (fun _ h9 => h9) rfl dX1_switchCount_1 ?_
  rw [hQQ]
  exact W.iret (v := sc) hx hb hr (fun t ht hW => ⟨_, rfl, Option.some.inj h, ht⟩) (fun q hq => absurd hq List.not_mem_nil) dX1_switchCount_4

def fX1_allNodes (N : Nat) (nc : Int32) (sc : Int32) (br : Int32) (so : Int32) (lo : Int32) : Option ((Int32)) :=
  some (((1 : Int32) <<< (nc &&& 31)) - 1)
set_option maxRecDepth 100000 in
theorem inX1_allNodes_X1 : ∀ w ∈ wsX10, w ∈ wsX1_allNodes := by decide +kernel
set_option maxRecDepth 100000 in
theorem lkX1_allNodes_0 : (.fieldLink RX1 15 "Switchlog$Net" "nodeCount" "I" : Cond) ∈ wsX1_allNodes := by decide +kernel
abbrev rmX1_allNodes : Room := { frames := 0, cells := 0, slots := 0, locals := 0 }
set_option maxHeartbeats 4000000 in
set_option maxRecDepth 100000 in
theorem kX1_allNodes (l : Launch) (D : va_G) (cI cZ cL : ClassId) (h_net a_ends : Nat) (nc : Int32) (sc : Int32) (br : Int32) (so : Int32) (lo : Int32)  (N : Nat) {r : Int32} (h : fX1_allNodes N nc sc br so lo  = some r) : Met l yX1_allNodes wsX1_allNodes rmX1_allNodes (PR D cI cZ cL [.ref h_net] [(h_net, .inr (1, [.ref a_ends, .int nc, .int sc, .int br, .int so, .int lo]))]) (vp_Si (fun z => z = r)) 0 0 (fun _ => False) := by
  refine Met.ofW (cc := cX1_allNodes) (maxL := 1) (ret := (some .int)) (by decide) rfl ?_
  intro p e s m args below meth c s₁ B hml hv
  obtain ⟨rfl, hP, hKK⟩ := hv
  have hK := hKK.1
  have hx := B.exec
  have hb := B.bytes
  have hr := B.returns
  have hts := atoms_spec (ws := wsX1_allNodes) B.pre
  have hown : s.vm.findClass RX1 = some m.cls := findClass_of_methodNamed B.named
  have hlocks := B.notSynchronized
  have hl := lv_entry ([.ref h_net]) (n := 1) (Nat.le_of_ble_eq_true rfl)
  rw [lg_entry_eq]
  generalize (lg_sl ([.ref h_net]) ++ List.replicate (1 - (lg_sl ([.ref h_net])).length) Slot.unset).toArray = ls at hl ⊢
  have hl : lv_has ls 1 [(0, .ref h_net)] := hl
  obtain ⟨QQ, hQQ⟩ : ∃ Z, Z = MQ below (vp_Si (fun z => z = r)) ([.ref h_net] : List Value).toArray s 0 0 (fun _ => False) := ⟨_, rfl⟩
  rw [← hQQ]
  unfold fX1_allNodes at h
  refine lv_iconst (v := 1) hx hb dX1_allNodes_0 (by decide) ?_
  refine lv_aload_n hx hb dX1_allNodes_1 rfl (lv_at hl 0 rfl) ?_
  refine va_get (D := D) (ci := 1) (v := .int nc) (C := RX1) (T := TX1) (N := 6) hx hb hts inX1_allNodes_X1 hown hK hP 0 rfl rfl 1 (by decide) (hts _ lkX1_allNodes_0) (fun _ h9 => h9) rfl dX1_allNodes_2 ?_
  refine lv_ishl hx hb dX1_allNodes_5 ?_
  refine lv_iconst (v := 1) hx hb dX1_allNodes_6 (by decide) ?_
  refine lv_isub hx hb dX1_allNodes_7 ?_
  rw [hQQ]
  exact W.iret (v := ((1 : Int32) <<< (nc &&& 31)) - 1) hx hb hr (fun t ht hW => ⟨_, rfl, Option.some.inj h, ht⟩) (fun q hq => absurd hq List.not_mem_nil) dX1_allNodes_8

def fX1_hasNode (N : Nat) (nc : Int32) (sc : Int32) (br : Int32) (so : Int32) (lo : Int32) (p0 : Int32) : Option ((Int32)) :=
  (if p0 < 0 then some 0 else (if nc ≤ p0 then some 0 else some 1))
set_option maxRecDepth 100000 in
theorem inX1_hasNode_X1 : ∀ w ∈ wsX10, w ∈ wsX1_hasNode := by decide +kernel
set_option maxRecDepth 100000 in
theorem lkX1_hasNode_0 : (.fieldLink RX1 15 "Switchlog$Net" "nodeCount" "I" : Cond) ∈ wsX1_hasNode := by decide +kernel
abbrev rmX1_hasNode : Room := { frames := 0, cells := 0, slots := 0, locals := 0 }
set_option maxHeartbeats 4000000 in
set_option maxRecDepth 100000 in
theorem kX1_hasNode (l : Launch) (D : va_G) (cI cZ cL : ClassId) (h_net a_ends : Nat) (nc : Int32) (sc : Int32) (br : Int32) (so : Int32) (lo : Int32) (p0 : Int32) (N : Nat) {r : Int32} (h : fX1_hasNode N nc sc br so lo p0 = some r) : Met l yX1_hasNode wsX1_hasNode rmX1_hasNode (PR D cI cZ cL [.ref h_net, .int p0] [(h_net, .inr (1, [.ref a_ends, .int nc, .int sc, .int br, .int so, .int lo]))]) (vp_Si (fun z => z = r)) 0 0 (fun _ => False) := by
  refine Met.ofW (cc := cX1_hasNode) (maxL := 2) (ret := (some .boolean)) (by decide) rfl ?_
  intro p e s m args below meth c s₁ B hml hv
  obtain ⟨rfl, hP, hKK⟩ := hv
  have hK := hKK.1
  have hx := B.exec
  have hb := B.bytes
  have hr := B.returns
  have hts := atoms_spec (ws := wsX1_hasNode) B.pre
  have hown : s.vm.findClass RX1 = some m.cls := findClass_of_methodNamed B.named
  have hlocks := B.notSynchronized
  have hl := lv_entry ([.ref h_net, .int p0]) (n := 2) (Nat.le_of_ble_eq_true rfl)
  rw [lg_entry_eq]
  generalize (lg_sl ([.ref h_net, .int p0]) ++ List.replicate (2 - (lg_sl ([.ref h_net, .int p0])).length) Slot.unset).toArray = ls at hl ⊢
  have hl : lv_has ls 2 [(0, .ref h_net), (1, .int p0)] := hl
  obtain ⟨QQ, hQQ⟩ : ∃ Z, Z = MQ below (vp_Si (fun z => z = r)) ([.ref h_net, .int p0] : List Value).toArray s 0 0 (fun _ => False) := ⟨_, rfl⟩
  rw [← hQQ]
  unfold fX1_hasNode at h
  refine lv_iload_n hx hb dX1_hasNode_0 rfl (lv_at hl 1 rfl) ?_
  refine lv_if_lt (tgt := 16) hx hb dX1_hasNode_1 (by decide) (fun c1 => ?_) (fun c1 => ?_)
  · have h := it_t h c1
    refine lv_iconst (v := 0) hx hb dX1_hasNode_16 (by decide) ?_
    rw [hQQ]
    exact W.zret (v := 0) hx hb hr (by decide) (fun t ht hW => ⟨_, rfl, Option.some.inj h, ht⟩) (fun q hq => absurd hq List.not_mem_nil) dX1_hasNode_17
  · have h := it_f h c1
    refine lv_iload_n hx hb dX1_hasNode_4 rfl (lv_at hl 1 rfl) ?_
    refine lv_aload_n hx hb dX1_hasNode_5 rfl (lv_at hl 0 rfl) ?_
    refine va_get (D := D) (ci := 1) (v := .int nc) (C := RX1) (T := TX1) (N := 6) hx hb hts inX1_hasNode_X1 hown hK hP 0 rfl rfl 1 (by decide) (hts _ lkX1_hasNode_0) (fun _ h9 => h9) rfl dX1_hasNode_6 ?_
    refine lv_icmp_ge (tgt := 16) hx hb dX1_hasNode_9 (by decide) (fun c2 => ?_) (fun c2 => ?_)
    · have h := it_t h c2
      refine lv_iconst (v := 0) hx hb dX1_hasNode_16 (by decide) ?_
      rw [hQQ]
      exact W.zret (v := 0) hx hb hr (by decide) (fun t ht hW => ⟨_, rfl, Option.some.inj h, ht⟩) (fun q hq => absurd hq List.not_mem_nil) dX1_hasNode_17
    · have h := it_f h c2
      refine lv_iconst (v := 1) hx hb dX1_hasNode_12 (by decide) ?_
      refine lv_goto (tgt := 17) hx hb dX1_hasNode_13 (by decide) ?_
      rw [hQQ]
      exact W.zret (v := 1) hx hb hr (by decide) (fun t ht hW => ⟨_, rfl, Option.some.inj h, ht⟩) (fun q hq => absurd hq List.not_mem_nil) dX1_hasNode_17

def fX1_hasSwitch (N : Nat) (nc : Int32) (sc : Int32) (br : Int32) (so : Int32) (lo : Int32) (p0 : Int32) : Option ((Int32)) :=
  (if p0 < 0 then some 0 else (if sc ≤ p0 then some 0 else some 1))
set_option maxRecDepth 100000 in
theorem inX1_hasSwitch_X1 : ∀ w ∈ wsX10, w ∈ wsX1_hasSwitch := by decide +kernel
set_option maxRecDepth 100000 in
theorem lkX1_hasSwitch_0 : (.fieldLink RX1 19 "Switchlog$Net" "switchCount" "I" : Cond) ∈ wsX1_hasSwitch := by decide +kernel
abbrev rmX1_hasSwitch : Room := { frames := 0, cells := 0, slots := 0, locals := 0 }
set_option maxHeartbeats 4000000 in
set_option maxRecDepth 100000 in
theorem kX1_hasSwitch (l : Launch) (D : va_G) (cI cZ cL : ClassId) (h_net a_ends : Nat) (nc : Int32) (sc : Int32) (br : Int32) (so : Int32) (lo : Int32) (p0 : Int32) (N : Nat) {r : Int32} (h : fX1_hasSwitch N nc sc br so lo p0 = some r) : Met l yX1_hasSwitch wsX1_hasSwitch rmX1_hasSwitch (PR D cI cZ cL [.ref h_net, .int p0] [(h_net, .inr (1, [.ref a_ends, .int nc, .int sc, .int br, .int so, .int lo]))]) (vp_Si (fun z => z = r)) 0 0 (fun _ => False) := by
  refine Met.ofW (cc := cX1_hasSwitch) (maxL := 2) (ret := (some .boolean)) (by decide) rfl ?_
  intro p e s m args below meth c s₁ B hml hv
  obtain ⟨rfl, hP, hKK⟩ := hv
  have hK := hKK.1
  have hx := B.exec
  have hb := B.bytes
  have hr := B.returns
  have hts := atoms_spec (ws := wsX1_hasSwitch) B.pre
  have hown : s.vm.findClass RX1 = some m.cls := findClass_of_methodNamed B.named
  have hlocks := B.notSynchronized
  have hl := lv_entry ([.ref h_net, .int p0]) (n := 2) (Nat.le_of_ble_eq_true rfl)
  rw [lg_entry_eq]
  generalize (lg_sl ([.ref h_net, .int p0]) ++ List.replicate (2 - (lg_sl ([.ref h_net, .int p0])).length) Slot.unset).toArray = ls at hl ⊢
  have hl : lv_has ls 2 [(0, .ref h_net), (1, .int p0)] := hl
  obtain ⟨QQ, hQQ⟩ : ∃ Z, Z = MQ below (vp_Si (fun z => z = r)) ([.ref h_net, .int p0] : List Value).toArray s 0 0 (fun _ => False) := ⟨_, rfl⟩
  rw [← hQQ]
  unfold fX1_hasSwitch at h
  refine lv_iload_n hx hb dX1_hasSwitch_0 rfl (lv_at hl 1 rfl) ?_
  refine lv_if_lt (tgt := 16) hx hb dX1_hasSwitch_1 (by decide) (fun c1 => ?_) (fun c1 => ?_)
  · have h := it_t h c1
    refine lv_iconst (v := 0) hx hb dX1_hasSwitch_16 (by decide) ?_
    rw [hQQ]
    exact W.zret (v := 0) hx hb hr (by decide) (fun t ht hW => ⟨_, rfl, Option.some.inj h, ht⟩) (fun q hq => absurd hq List.not_mem_nil) dX1_hasSwitch_17
  · have h := it_f h c1
    refine lv_iload_n hx hb dX1_hasSwitch_4 rfl (lv_at hl 1 rfl) ?_
    refine lv_aload_n hx hb dX1_hasSwitch_5 rfl (lv_at hl 0 rfl) ?_
    refine va_get (D := D) (ci := 1) (v := .int sc) (C := RX1) (T := TX1) (N := 6) hx hb hts inX1_hasSwitch_X1 hown hK hP 0 rfl rfl 2 (by decide) (hts _ lkX1_hasSwitch_0) (fun _ h9 => h9) rfl dX1_hasSwitch_6 ?_
    refine lv_icmp_ge (tgt := 16) hx hb dX1_hasSwitch_9 (by decide) (fun c2 => ?_) (fun c2 => ?_)
    · have h := it_t h c2
      refine lv_iconst (v := 0) hx hb dX1_hasSwitch_16 (by decide) ?_
      rw [hQQ]
      exact W.zret (v := 0) hx hb hr (by decide) (fun t ht hW => ⟨_, rfl, Option.some.inj h, ht⟩) (fun q hq => absurd hq List.not_mem_nil) dX1_hasSwitch_17
    · have h := it_f h c2
      refine lv_iconst (v := 1) hx hb dX1_hasSwitch_12 (by decide) ?_
      refine lv_goto (tgt := 17) hx hb dX1_hasSwitch_13 (by decide) ?_
      rw [hQQ]
      exact W.zret (v := 1) hx hb hr (by decide) (fun t ht hW => ⟨_, rfl, Option.some.inj h, ht⟩) (fun q hq => absurd hq List.not_mem_nil) dX1_hasSwitch_17

def fX1_hasSource (N : Nat) (nc : Int32) (sc : Int32) (br : Int32) (so : Int32) (lo : Int32) (p0 : Int32) : Option ((Int32)) :=
  (if ((so >>> (p0 &&& 31)) &&& 1) = 0 then some 0 else some 1)
set_option maxRecDepth 100000 in
theorem inX1_hasSource_X1 : ∀ w ∈ wsX10, w ∈ wsX1_hasSource := by decide +kernel
set_option maxRecDepth 100000 in
theorem lkX1_hasSource_0 : (.fieldLink RX1 22 "Switchlog$Net" "sources" "I" : Cond) ∈ wsX1_hasSource := by decide +kernel
abbrev rmX1_hasSource : Room := { frames := 0, cells := 0, slots := 0, locals := 0 }
set_option maxHeartbeats 4000000 in
set_option maxRecDepth 100000 in
theorem kX1_hasSource (l : Launch) (D : va_G) (cI cZ cL : ClassId) (h_net a_ends : Nat) (nc : Int32) (sc : Int32) (br : Int32) (so : Int32) (lo : Int32) (p0 : Int32) (N : Nat) {r : Int32} (h : fX1_hasSource N nc sc br so lo p0 = some r) : Met l yX1_hasSource wsX1_hasSource rmX1_hasSource (PR D cI cZ cL [.ref h_net, .int p0] [(h_net, .inr (1, [.ref a_ends, .int nc, .int sc, .int br, .int so, .int lo]))]) (vp_Si (fun z => z = r)) 0 0 (fun _ => False) := by
  refine Met.ofW (cc := cX1_hasSource) (maxL := 2) (ret := (some .boolean)) (by decide) rfl ?_
  intro p e s m args below meth c s₁ B hml hv
  obtain ⟨rfl, hP, hKK⟩ := hv
  have hK := hKK.1
  have hx := B.exec
  have hb := B.bytes
  have hr := B.returns
  have hts := atoms_spec (ws := wsX1_hasSource) B.pre
  have hown : s.vm.findClass RX1 = some m.cls := findClass_of_methodNamed B.named
  have hlocks := B.notSynchronized
  have hl := lv_entry ([.ref h_net, .int p0]) (n := 2) (Nat.le_of_ble_eq_true rfl)
  rw [lg_entry_eq]
  generalize (lg_sl ([.ref h_net, .int p0]) ++ List.replicate (2 - (lg_sl ([.ref h_net, .int p0])).length) Slot.unset).toArray = ls at hl ⊢
  have hl : lv_has ls 2 [(0, .ref h_net), (1, .int p0)] := hl
  obtain ⟨QQ, hQQ⟩ : ∃ Z, Z = MQ below (vp_Si (fun z => z = r)) ([.ref h_net, .int p0] : List Value).toArray s 0 0 (fun _ => False) := ⟨_, rfl⟩
  rw [← hQQ]
  unfold fX1_hasSource at h
  refine lv_aload_n hx hb dX1_hasSource_0 rfl (lv_at hl 0 rfl) ?_
  refine va_get (D := D) (ci := 1) (v := .int so) (C := RX1) (T := TX1) (N := 6) hx hb hts inX1_hasSource_X1 hown hK hP 0 rfl rfl 4 (by decide) (hts _ lkX1_hasSource_0) (fun _ h9 => h9) rfl dX1_hasSource_1 ?_
  refine lv_iload_n hx hb dX1_hasSource_4 rfl (lv_at hl 1 rfl) ?_
  refine lv_ishr hx hb dX1_hasSource_5 ?_
  refine lv_iconst (v := 1) hx hb dX1_hasSource_6 (by decide) ?_
  refine lv_iand hx hb dX1_hasSource_7 ?_
  refine lv_if_eq (tgt := 15) hx hb dX1_hasSource_8 (by decide) (fun c1 => ?_) (fun c1 => ?_)
  · have h := it_t h c1
    refine lv_iconst (v := 0) hx hb dX1_hasSource_15 (by decide) ?_
    rw [hQQ]
    exact W.zret (v := 0) hx hb hr (by decide) (fun t ht hW => ⟨_, rfl, Option.some.inj h, ht⟩) (fun q hq => absurd hq List.not_mem_nil) dX1_hasSource_16
  · have h := it_f h c1
    refine lv_iconst (v := 1) hx hb dX1_hasSource_11 (by decide) ?_
    refine lv_goto (tgt := 16) hx hb dX1_hasSource_12 (by decide) ?_
    rw [hQQ]
    exact W.zret (v := 1) hx hb hr (by decide) (fun t ht hW => ⟨_, rfl, Option.some.inj h, ht⟩) (fun q hq => absurd hq List.not_mem_nil) dX1_hasSource_16

def fX1_isBreaker (N : Nat) (nc : Int32) (sc : Int32) (br : Int32) (so : Int32) (lo : Int32) (p0 : Int32) : Option ((Int32)) :=
  (if ((br >>> (p0 &&& 31)) &&& 1) = 0 then some 0 else some 1)
set_option maxRecDepth 100000 in
theorem inX1_isBreaker_X1 : ∀ w ∈ wsX10, w ∈ wsX1_isBreaker := by decide +kernel
set_option maxRecDepth 100000 in
theorem lkX1_isBreaker_0 : (.fieldLink RX1 28 "Switchlog$Net" "breakers" "I" : Cond) ∈ wsX1_isBreaker := by decide +kernel
abbrev rmX1_isBreaker : Room := { frames := 0, cells := 0, slots := 0, locals := 0 }
set_option maxHeartbeats 4000000 in
set_option maxRecDepth 100000 in
theorem kX1_isBreaker (l : Launch) (D : va_G) (cI cZ cL : ClassId) (h_net a_ends : Nat) (nc : Int32) (sc : Int32) (br : Int32) (so : Int32) (lo : Int32) (p0 : Int32) (N : Nat) {r : Int32} (h : fX1_isBreaker N nc sc br so lo p0 = some r) : Met l yX1_isBreaker wsX1_isBreaker rmX1_isBreaker (PR D cI cZ cL [.ref h_net, .int p0] [(h_net, .inr (1, [.ref a_ends, .int nc, .int sc, .int br, .int so, .int lo]))]) (vp_Si (fun z => z = r)) 0 0 (fun _ => False) := by
  refine Met.ofW (cc := cX1_isBreaker) (maxL := 2) (ret := (some .boolean)) (by decide) rfl ?_
  intro p e s m args below meth c s₁ B hml hv
  obtain ⟨rfl, hP, hKK⟩ := hv
  have hK := hKK.1
  have hx := B.exec
  have hb := B.bytes
  have hr := B.returns
  have hts := atoms_spec (ws := wsX1_isBreaker) B.pre
  have hown : s.vm.findClass RX1 = some m.cls := findClass_of_methodNamed B.named
  have hlocks := B.notSynchronized
  have hl := lv_entry ([.ref h_net, .int p0]) (n := 2) (Nat.le_of_ble_eq_true rfl)
  rw [lg_entry_eq]
  generalize (lg_sl ([.ref h_net, .int p0]) ++ List.replicate (2 - (lg_sl ([.ref h_net, .int p0])).length) Slot.unset).toArray = ls at hl ⊢
  have hl : lv_has ls 2 [(0, .ref h_net), (1, .int p0)] := hl
  obtain ⟨QQ, hQQ⟩ : ∃ Z, Z = MQ below (vp_Si (fun z => z = r)) ([.ref h_net, .int p0] : List Value).toArray s 0 0 (fun _ => False) := ⟨_, rfl⟩
  rw [← hQQ]
  unfold fX1_isBreaker at h
  refine lv_aload_n hx hb dX1_isBreaker_0 rfl (lv_at hl 0 rfl) ?_
  refine va_get (D := D) (ci := 1) (v := .int br) (C := RX1) (T := TX1) (N := 6) hx hb hts inX1_isBreaker_X1 hown hK hP 0 rfl rfl 3 (by decide) (hts _ lkX1_isBreaker_0) (fun _ h9 => h9) rfl dX1_isBreaker_1 ?_
  refine lv_iload_n hx hb dX1_isBreaker_4 rfl (lv_at hl 1 rfl) ?_
  refine lv_ishr hx hb dX1_isBreaker_5 ?_
  refine lv_iconst (v := 1) hx hb dX1_isBreaker_6 (by decide) ?_
  refine lv_iand hx hb dX1_isBreaker_7 ?_
  refine lv_if_eq (tgt := 15) hx hb dX1_isBreaker_8 (by decide) (fun c1 => ?_) (fun c1 => ?_)
  · have h := it_t h c1
    refine lv_iconst (v := 0) hx hb dX1_isBreaker_15 (by decide) ?_
    rw [hQQ]
    exact W.zret (v := 0) hx hb hr (by decide) (fun t ht hW => ⟨_, rfl, Option.some.inj h, ht⟩) (fun q hq => absurd hq List.not_mem_nil) dX1_isBreaker_16
  · have h := it_f h c1
    refine lv_iconst (v := 1) hx hb dX1_isBreaker_11 (by decide) ?_
    refine lv_goto (tgt := 16) hx hb dX1_isBreaker_12 (by decide) ?_
    rw [hQQ]
    exact W.zret (v := 1) hx hb hr (by decide) (fun t ht hW => ⟨_, rfl, Option.some.inj h, ht⟩) (fun q hq => absurd hq List.not_mem_nil) dX1_isBreaker_16

def fX1_endsOf (N : Nat) (nc : Int32) (sc : Int32) (br : Int32) (so : Int32) (lo : Int32) (ends : Nat → Int32) (p0 : Int32) : Option ((Int32)) :=
  gin p0 24 (some (ends p0.toNatClampNeg))
set_option maxRecDepth 100000 in
theorem inX1_endsOf_X1 : ∀ w ∈ wsX10, w ∈ wsX1_endsOf := by decide +kernel
set_option maxRecDepth 100000 in
theorem lkX1_endsOf_0 : (.fieldLink RX1 9 "Switchlog$Net" "ends" "[I" : Cond) ∈ wsX1_endsOf := by decide +kernel
abbrev rmX1_endsOf : Room := { frames := 0, cells := 0, slots := 0, locals := 0 }
set_option maxHeartbeats 4000000 in
set_option maxRecDepth 100000 in
theorem kX1_endsOf (l : Launch) (D : va_G) (cI cZ cL : ClassId) (h_net h_ends : Nat) (nc : Int32) (sc : Int32) (br : Int32) (so : Int32) (lo : Int32) (ends : Nat → Int32) (p0 : Int32) (N : Nat) {r : Int32} (h : fX1_endsOf N nc sc br so lo ends p0 = some r) : Met l yX1_endsOf wsX1_endsOf rmX1_endsOf (PR D cI cZ cL [.ref h_net, .int p0] [(h_net, .inr (1, [.ref h_ends, .int nc, .int sc, .int br, .int so, .int lo])), (h_ends, .inl (cI, 24, .inl ends))]) (vp_Si (fun z => z = r)) 0 0 (fun _ => False) := by
  refine Met.ofW (cc := cX1_endsOf) (maxL := 2) (ret := (some .int)) (by decide) rfl ?_
  intro p e s m args below meth c s₁ B hml hv
  obtain ⟨rfl, hP, hKK⟩ := hv
  have hK := hKK.1
  have hx := B.exec
  have hb := B.bytes
  have hr := B.returns
  have hts := atoms_spec (ws := wsX1_endsOf) B.pre
  have hown : s.vm.findClass RX1 = some m.cls := findClass_of_methodNamed B.named
  have hlocks := B.notSynchronized
  have hl := lv_entry ([.ref h_net, .int p0]) (n := 2) (Nat.le_of_ble_eq_true rfl)
  rw [lg_entry_eq]
  generalize (lg_sl ([.ref h_net, .int p0]) ++ List.replicate (2 - (lg_sl ([.ref h_net, .int p0])).length) Slot.unset).toArray = ls at hl ⊢
  have hl : lv_has ls 2 [(0, .ref h_net), (1, .int p0)] := hl
  obtain ⟨QQ, hQQ⟩ : ∃ Z, Z = MQ below (vp_Si (fun z => z = r)) ([.ref h_net, .int p0] : List Value).toArray s 0 0 (fun _ => False) := ⟨_, rfl⟩
  rw [← hQQ]
  unfold fX1_endsOf at h
  refine lv_aload_n hx hb dX1_endsOf_0 rfl (lv_at hl 0 rfl) ?_
  refine va_get (D := D) (ci := 1) (v := .ref h_ends) (C := RX1) (T := TX1) (N := 6) hx hb hts inX1_endsOf_X1 hown hK hP 0 rfl rfl 0 (by decide) (hts _ lkX1_endsOf_0) (fun _ h9 => h9) rfl dX1_endsOf_1 ?_
  refine lv_iload_n hx hb dX1_endsOf_4 rfl (lv_at hl 1 rfl) ?_
  obtain ⟨hi1, h⟩ := gin_e h
  refine va_iald hx hb hK hP 1 0 rfl rfl hi1 dX1_endsOf_5 ?_
  rw [hQQ]
  exact W.iret (v := ends p0.toNatClampNeg) hx hb hr (fun t ht hW => ⟨_, rfl, Option.some.inj h, ht⟩) (fun q hq => absurd hq List.not_mem_nil) dX1_endsOf_6

def fX1_appendNode (N : Nat) (nc : Int32) (sc : Int32) (br : Int32) (so : Int32) (lo : Int32) (p0 : Int32) (p1 : Int32) : Option ((Int32) × (Int32) × (Int32) × (Int32)) :=
  jn1 (fun (y1 : Int32) => jn1 (fun (y4 : Int32) => some (nc, nc + 1, so ||| y1, lo ||| y4)) (fun g39_5 => (if p1 = 0 then g39_5 0 else g39_5 ((1 : Int32) <<< (nc &&& 31))))) (fun g21_2 => (if p0 = 0 then g21_2 0 else g21_2 ((1 : Int32) <<< (nc &&& 31))))
set_option maxRecDepth 100000 in
theorem inX1_appendNode_X1 : ∀ w ∈ wsX10, w ∈ wsX1_appendNode := by decide +kernel
set_option maxRecDepth 100000 in
theorem lkX1_appendNode_0 : (.fieldLink RX1 15 "Switchlog$Net" "nodeCount" "I" : Cond) ∈ wsX1_appendNode := by decide +kernel
set_option maxRecDepth 100000 in
theorem lkX1_appendNode_1 : (.fieldLink RX1 22 "Switchlog$Net" "sources" "I" : Cond) ∈ wsX1_appendNode := by decide +kernel
set_option maxRecDepth 100000 in
theorem lkX1_appendNode_2 : (.fieldLink RX1 25 "Switchlog$Net" "loads" "I" : Cond) ∈ wsX1_appendNode := by decide +kernel
abbrev rmX1_appendNode : Room := { frames := 0, cells := 0, slots := 0, locals := 0 }
set_option maxHeartbeats 4000000 in
set_option maxRecDepth 100000 in
theorem kX1_appendNode (l : Launch) (D : va_G) (cI cZ cL : ClassId) (sz0 : Nat) (h_net a_ends : Nat) (nc : Int32) (sc : Int32) (br : Int32) (so : Int32) (lo : Int32) (p0 : Int32) (p1 : Int32) (N : Nat) {r : Int32} {r_0 : Int32} {r_1 : Int32} {r_2 : Int32} (h : fX1_appendNode N nc sc br so lo p0 p1 = some (r, r_0, r_1, r_2)) : Met l yX1_appendNode wsX1_appendNode rmX1_appendNode (PM D cI cZ cL [.ref h_net, .int p0, .int p1] [(h_net, .inr (1, [.ref a_ends, .int nc, .int sc, .int br, .int so, .int lo]))] sz0) (QM D (some (.int r)) (va_A [(h_net, .inr (1, [.ref a_ends, .int nc, .int sc, .int br, .int so, .int lo]))] sz0) [(h_net, .inr (1, [.ref a_ends, .int r_0, .int sc, .int br, .int r_1, .int r_2]))]) 0 0 (va_A [(h_net, .inr (1, [.ref a_ends, .int nc, .int sc, .int br, .int so, .int lo]))] sz0) := by
  refine Met.ofW (cc := cX1_appendNode) (maxL := 4) (ret := (some .int)) (by decide) rfl ?_
  intro p e s m args below meth c s₁ B hml hv
  obtain ⟨rfl, hsz, hP, hKK, hD0⟩ := hv
  have hK := hKK.1
  have hx := B.exec
  have hb := B.bytes
  have hr := B.returns
  have hts := atoms_spec (ws := wsX1_appendNode) B.pre
  have hown : s.vm.findClass RX1 = some m.cls := findClass_of_methodNamed B.named
  have hlocks := B.notSynchronized
  subst hsz
  have hD := hD0.self (sz := s.heap.size)
  generalize hAe : va_A [(h_net, .inr (1, [.ref a_ends, .int nc, .int sc, .int br, .int so, .int lo]))] s.heap.size = A at hD ⊢
  have hA : ∀ q : Nat, s.heap.size ≤ q → A q := fun q h => by rw [← hAe]; exact Or.inr h
  have hS : va_S A s.heap s.heap [] := va_S.rf
  have hl := lv_entry ([.ref h_net, .int p0, .int p1]) (n := 4) (Nat.le_of_ble_eq_true rfl)
  rw [lg_entry_eq]
  generalize (lg_sl ([.ref h_net, .int p0, .int p1]) ++ List.replicate (4 - (lg_sl ([.ref h_net, .int p0, .int p1])).length) Slot.unset).toArray = ls at hl ⊢
  have hl : lv_has ls 4 [(0, .ref h_net), (1, .int p0), (2, .int p1)] := hl
  obtain ⟨QQ, hQQ⟩ : ∃ Z, Z = MQ below (QM D (some (.int r)) A [(h_net, .inr (1, [.ref a_ends, .int r_0, .int sc, .int br, .int r_1, .int r_2]))]) ([.ref h_net, .int p0, .int p1] : List Value).toArray s 0 0 A := ⟨_, rfl⟩
  rw [← hQQ]
  obtain ⟨H, locs, hHe, hLe⟩ : ∃ (H : Heap) (locs : List Loc), H = s.heap ∧ locs = [] := ⟨_, _, rfl, rfl⟩
  have hP : va_P D vwCl [(h_net, .inr (1, [.ref a_ends, .int nc, .int sc, .int br, .int so, .int lo]))] H := by rw [hHe]; exact hP
  have hS : va_S A s.heap H locs := by rw [hHe, hLe]; exact hS
  have hW0 : ∀ QQ : State → Prop, W p l e (headSpec wsX1_appendNode rmX1_appendNode).room s m (([.ref h_net, .int p0, .int p1] : List Value).toArray) below meth c H locs 0 0 QQ (F0 m 0 ls []) → W p l e (headSpec wsX1_appendNode rmX1_appendNode).room s m (([.ref h_net, .int p0, .int p1] : List Value).toArray) below meth c s.heap [] 0 0 QQ (F0 m 0 ls []) := by rw [hHe, hLe]; exact fun _ h => h
  refine hW0 _ ?_
  clear hW0
  unfold fX1_appendNode at h
  refine lv_iconst (v := 1) hx hb dX1_appendNode_0 (by decide) ?_
  refine lv_aload_n hx hb dX1_appendNode_1 rfl (lv_at hl 0 rfl) ?_
  refine va_get (D := D) (ci := 1) (v := .int nc) (C := RX1) (T := TX1) (N := 6) hx hb hts inX1_appendNode_X1 hown hK hP 0 rfl rfl 1 (by decide) (hts _ lkX1_appendNode_0) (fun _ h9 => h9) rfl dX1_appendNode_2 ?_
  refine lv_ishl hx hb dX1_appendNode_5 ?_
  refine lv_istore_n (lv' := [(3, .int ((1 : Int32) <<< (nc &&& 31))), (0, .ref h_net), (1, .int p0), (2, .int p1)]) hx hb dX1_appendNode_6 rfl hl (by decide) rfl (fun ls hl => ?_)
  refine lv_aload_n hx hb dX1_appendNode_7 rfl (lv_at hl 1 rfl) ?_
  refine lv_dup hx hb dX1_appendNode_8 rfl ?_
  refine va_get (D := D) (ci := 1) (v := .int so) (C := RX1) (T := TX1) (N := 6) hx hb hts inX1_appendNode_X1 hown hK hP 0 rfl rfl 4 (by decide) (hts _ lkX1_appendNode_1) (fun _ h9 => h9) rfl dX1_appendNode_9 ?_
  refine lv_iload_n hx hb dX1_appendNode_12 rfl (lv_at hl 2 rfl) ?_
  refine jn1_e (fun (y1 : Int32) => ∀ (H : Heap) (locs : List Loc) (ls : Array Slot), va_P D vwCl [(h_net, .inr (1, [.ref a_ends, .int nc, .int sc, .int br, .int so, .int lo]))] H → va_D A [(h_net, .inr (1, [.ref a_ends, .int nc, .int sc, .int br, .int so, .int lo]))] → va_S A s.heap H locs → lv_has ls 4 [(3, .int ((1 : Int32) <<< (nc &&& 31))), (0, .ref h_net), (1, .int p0), (2, .int p1)] → W p l e (headSpec wsX1_appendNode rmX1_appendNode).room s m (([.ref h_net, .int p0, .int p1] : List Value).toArray) below meth c H locs 0 0 QQ (F0 m 21 ls [.int y1, .int so, .ref h_net])) h (fun y1 h H locs ls hP hD hS hl => ?_) (fun g21_2 hg21_3 h => ?_)
  · refine lv_ior hx hb dX1_appendNode_21 ?_
    refine va_put (D := D) (ci := 1) (v := .int (so ||| y1)) (ty := .int) (C := RX1) (T := TX1) (N := 6) hx hb hts inX1_appendNode_X1 tyX1 tyX1_ok nmX1 hown hK hP hD hS 0 rfl rfl 4 (by decide) (hts _ lkX1_appendNode_1) (fun _ h9 => h9) rfl (by decide +kernel) rfl rfl (Nat.le_of_ble_eq_true rfl) dX1_appendNode_22 (fun H locs hP hD hS => ?_)
    have hP : va_P D vwCl [(h_net, .inr (1, [.ref a_ends, .int nc, .int sc, .int br, .int (so ||| y1), .int lo]))] H := hP
    have hD : va_D A [(h_net, .inr (1, [.ref a_ends, .int nc, .int sc, .int br, .int (so ||| y1), .int lo]))] := hD
    refine lv_aload_n hx hb dX1_appendNode_25 rfl (lv_at hl 1 rfl) ?_
    refine lv_dup hx hb dX1_appendNode_26 rfl ?_
    refine va_get (D := D) (ci := 1) (v := .int lo) (C := RX1) (T := TX1) (N := 6) hx hb hts inX1_appendNode_X1 hown hK hP 0 rfl rfl 5 (by decide) (hts _ lkX1_appendNode_2) (fun _ h9 => h9) rfl dX1_appendNode_27 ?_
    refine lv_iload_n hx hb dX1_appendNode_30 rfl (lv_at hl 3 rfl) ?_
    refine jn1_e (fun (y4 : Int32) => ∀ (H : Heap) (locs : List Loc) (ls : Array Slot), va_P D vwCl [(h_net, .inr (1, [.ref a_ends, .int nc, .int sc, .int br, .int (so ||| y1), .int lo]))] H → va_D A [(h_net, .inr (1, [.ref a_ends, .int nc, .int sc, .int br, .int (so ||| y1), .int lo]))] → va_S A s.heap H locs → lv_has ls 4 [(3, .int ((1 : Int32) <<< (nc &&& 31))), (0, .ref h_net), (1, .int p0), (2, .int p1)] → W p l e (headSpec wsX1_appendNode rmX1_appendNode).room s m (([.ref h_net, .int p0, .int p1] : List Value).toArray) below meth c H locs 0 0 QQ (F0 m 39 ls [.int y4, .int lo, .ref h_net])) h (fun y4 h H locs ls hP hD hS hl => ?_) (fun g39_5 hg39_6 h => ?_)
    · refine lv_ior hx hb dX1_appendNode_39 ?_
      refine va_put (D := D) (ci := 1) (v := .int (lo ||| y4)) (ty := .int) (C := RX1) (T := TX1) (N := 6) hx hb hts inX1_appendNode_X1 tyX1 tyX1_ok nmX1 hown hK hP hD hS 0 rfl rfl 5 (by decide) (hts _ lkX1_appendNode_2) (fun _ h9 => h9) rfl (by decide +kernel) rfl rfl (Nat.le_of_ble_eq_true rfl) dX1_appendNode_40 (fun H locs hP hD hS => ?_)
      have hP : va_P D vwCl [(h_net, .inr (1, [.ref a_ends, .int nc, .int sc, .int br, .int (so ||| y1), .int (lo ||| y4)]))] H := hP
      have hD : va_D A [(h_net, .inr (1, [.ref a_ends, .int nc, .int sc, .int br, .int (so ||| y1), .int (lo ||| y4)]))] := hD
      refine lv_aload_n hx hb dX1_appendNode_43 rfl (lv_at hl 1 rfl) ?_
      refine lv_dup hx hb dX1_appendNode_44 rfl ?_
      refine va_get (D := D) (ci := 1) (v := .int nc) (C := RX1) (T := TX1) (N := 6) hx hb hts inX1_appendNode_X1 hown hK hP 0 rfl rfl 1 (by decide) (hts _ lkX1_appendNode_0) (fun _ h9 => h9) rfl dX1_appendNode_45 ?_
      refine lv_dup_x1 hx hb dX1_appendNode_48 rfl rfl ?_
      refine lv_iconst (v := 1) hx hb dX1_appendNode_49 (by decide) ?_
      refine lv_iadd hx hb dX1_appendNode_50 ?_
      refine va_put (D := D) (ci := 1) (v := .int (nc + 1)) (ty := .int) (C := RX1) (T := TX1) (N := 6) hx hb hts inX1_appendNode_X1 tyX1 tyX1_ok nmX1 hown hK hP hD hS 0 rfl rfl 1 (by decide) (hts _ lkX1_appendNode_0) (fun _ h9 => h9) rfl (by decide +kernel) rfl rfl (Nat.le_of_ble_eq_true rfl) dX1_appendNode_51 (fun H locs hP hD hS => ?_)
      have hP : va_P D vwCl [(h_net, .inr (1, [.ref a_ends, .int (nc + 1), .int sc, .int br, .int (so ||| y1), .int (lo ||| y4)]))] H := hP
      have hD : va_D A [(h_net, .inr (1, [.ref a_ends, .int (nc + 1), .int sc, .int br, .int (so ||| y1), .int (lo ||| y4)]))] := hD
      cases h
      rw [hQQ]
      exact W.iret hx hb hr (fun t ht hW => ⟨rfl, by rw [ht]; exact hP, hD, hS.F ht⟩) hS.2.2 dX1_appendNode_54
    · refine lv_if_eq (tgt := 38) hx hb dX1_appendNode_31 (by decide) (fun c7 => ?_) (fun c7 => ?_)
      · have h := it_t h c7
        refine lv_iconst (v := 0) hx hb dX1_appendNode_38 (by decide) ?_
        exact hg39_6 0 h H locs ls hP hD hS (lv_sub hl [0, 1, 2, 3] rfl)
      · have h := it_f h c7
        refine lv_iload_n hx hb dX1_appendNode_34 rfl (lv_at hl 0 rfl) ?_
        refine lv_goto (tgt := 39) hx hb dX1_appendNode_35 (by decide) ?_
        exact hg39_6 ((1 : Int32) <<< (nc &&& 31)) h H locs ls hP hD hS (lv_sub hl [0, 1, 2, 3] rfl)
  · refine lv_if_eq (tgt := 20) hx hb dX1_appendNode_13 (by decide) (fun c8 => ?_) (fun c8 => ?_)
    · have h := it_t h c8
      refine lv_iconst (v := 0) hx hb dX1_appendNode_20 (by decide) ?_
      exact hg21_3 0 h H locs ls hP hD hS (lv_sub hl [0, 1, 2, 3] rfl)
    · have h := it_f h c8
      refine lv_iload_n hx hb dX1_appendNode_16 rfl (lv_at hl 0 rfl) ?_
      refine lv_goto (tgt := 21) hx hb dX1_appendNode_17 (by decide) ?_
      exact hg21_3 ((1 : Int32) <<< (nc &&& 31)) h H locs ls hP hD hS (lv_sub hl [0, 1, 2, 3] rfl)

def fX1_appendSwitch (N : Nat) (nc : Int32) (sc : Int32) (br : Int32) (so : Int32) (lo : Int32) (ends : Nat → Int32) (p0 : Int32) (p1 : Int32) (p2 : Int32) : Option ((Int32) × (Nat → Int32) × (Int32) × (Int32)) :=
  gin sc 24 (jn1 (fun (y2 : Int32) => some (sc, upd ends sc.toNatClampNeg (((1 : Int32) <<< (p0 &&& 31)) ||| ((1 : Int32) <<< (p1 &&& 31))), sc + 1, br ||| y2)) (fun g35_3 => (if p2 = 0 then g35_3 0 else g35_3 ((1 : Int32) <<< (sc &&& 31)))))
set_option maxRecDepth 100000 in
theorem inX1_appendSwitch_X1 : ∀ w ∈ wsX10, w ∈ wsX1_appendSwitch := by decide +kernel
set_option maxRecDepth 100000 in
theorem lkX1_appendSwitch_0 : (.fieldLink RX1 9 "Switchlog$Net" "ends" "[I" : Cond) ∈ wsX1_appendSwitch := by decide +kernel
set_option maxRecDepth 100000 in
theorem lkX1_appendSwitch_1 : (.fieldLink RX1 19 "Switchlog$Net" "switchCount" "I" : Cond) ∈ wsX1_appendSwitch := by decide +kernel
set_option maxRecDepth 100000 in
theorem lkX1_appendSwitch_2 : (.fieldLink RX1 28 "Switchlog$Net" "breakers" "I" : Cond) ∈ wsX1_appendSwitch := by decide +kernel
abbrev rmX1_appendSwitch : Room := { frames := 0, cells := 0, slots := 0, locals := 0 }
set_option maxHeartbeats 4000000 in
set_option maxRecDepth 100000 in
theorem kX1_appendSwitch (l : Launch) (D : va_G) (cI cZ cL : ClassId) (sz0 : Nat) (h_net h_ends : Nat) (nc : Int32) (sc : Int32) (br : Int32) (so : Int32) (lo : Int32) (ends : Nat → Int32) (p0 : Int32) (p1 : Int32) (p2 : Int32) (N : Nat) {r : Int32} {r_0 : Nat → Int32} {r_1 : Int32} {r_2 : Int32} (h : fX1_appendSwitch N nc sc br so lo ends p0 p1 p2 = some (r, r_0, r_1, r_2)) : Met l yX1_appendSwitch wsX1_appendSwitch rmX1_appendSwitch (PM D cI cZ cL [.ref h_net, .int p0, .int p1, .int p2] [(h_net, .inr (1, [.ref h_ends, .int nc, .int sc, .int br, .int so, .int lo])), (h_ends, .inl (cI, 24, .inl ends))] sz0) (QM D (some (.int r)) (va_A [(h_net, .inr (1, [.ref h_ends, .int nc, .int sc, .int br, .int so, .int lo])), (h_ends, .inl (cI, 24, .inl ends))] sz0) [(h_net, .inr (1, [.ref h_ends, .int nc, .int r_1, .int r_2, .int so, .int lo])), (h_ends, .inl (cI, 24, .inl r_0))]) 0 0 (va_A [(h_net, .inr (1, [.ref h_ends, .int nc, .int sc, .int br, .int so, .int lo])), (h_ends, .inl (cI, 24, .inl ends))] sz0) := by
  refine Met.ofW (cc := cX1_appendSwitch) (maxL := 4) (ret := (some .int)) (by decide) rfl ?_
  intro p e s m args below meth c s₁ B hml hv
  obtain ⟨rfl, hsz, hP, hKK, hD0⟩ := hv
  have hK := hKK.1
  have hx := B.exec
  have hb := B.bytes
  have hr := B.returns
  have hts := atoms_spec (ws := wsX1_appendSwitch) B.pre
  have hown : s.vm.findClass RX1 = some m.cls := findClass_of_methodNamed B.named
  have hlocks := B.notSynchronized
  subst hsz
  have hD := hD0.self (sz := s.heap.size)
  generalize hAe : va_A [(h_net, .inr (1, [.ref h_ends, .int nc, .int sc, .int br, .int so, .int lo])), (h_ends, .inl (cI, 24, .inl ends))] s.heap.size = A at hD ⊢
  have hA : ∀ q : Nat, s.heap.size ≤ q → A q := fun q h => by rw [← hAe]; exact Or.inr h
  have hS : va_S A s.heap s.heap [] := va_S.rf
  have hl := lv_entry ([.ref h_net, .int p0, .int p1, .int p2]) (n := 4) (Nat.le_of_ble_eq_true rfl)
  rw [lg_entry_eq]
  generalize (lg_sl ([.ref h_net, .int p0, .int p1, .int p2]) ++ List.replicate (4 - (lg_sl ([.ref h_net, .int p0, .int p1, .int p2])).length) Slot.unset).toArray = ls at hl ⊢
  have hl : lv_has ls 4 [(0, .ref h_net), (1, .int p0), (2, .int p1), (3, .int p2)] := hl
  obtain ⟨QQ, hQQ⟩ : ∃ Z, Z = MQ below (QM D (some (.int r)) A [(h_net, .inr (1, [.ref h_ends, .int nc, .int r_1, .int r_2, .int so, .int lo])), (h_ends, .inl (cI, 24, .inl r_0))]) ([.ref h_net, .int p0, .int p1, .int p2] : List Value).toArray s 0 0 A := ⟨_, rfl⟩
  rw [← hQQ]
  obtain ⟨H, locs, hHe, hLe⟩ : ∃ (H : Heap) (locs : List Loc), H = s.heap ∧ locs = [] := ⟨_, _, rfl, rfl⟩
  have hP : va_P D vwCl [(h_net, .inr (1, [.ref h_ends, .int nc, .int sc, .int br, .int so, .int lo])), (h_ends, .inl (cI, 24, .inl ends))] H := by rw [hHe]; exact hP
  have hS : va_S A s.heap H locs := by rw [hHe, hLe]; exact hS
  have hW0 : ∀ QQ : State → Prop, W p l e (headSpec wsX1_appendSwitch rmX1_appendSwitch).room s m (([.ref h_net, .int p0, .int p1, .int p2] : List Value).toArray) below meth c H locs 0 0 QQ (F0 m 0 ls []) → W p l e (headSpec wsX1_appendSwitch rmX1_appendSwitch).room s m (([.ref h_net, .int p0, .int p1, .int p2] : List Value).toArray) below meth c s.heap [] 0 0 QQ (F0 m 0 ls []) := by rw [hHe, hLe]; exact fun _ h => h
  refine hW0 _ ?_
  clear hW0
  unfold fX1_appendSwitch at h
  refine lv_aload_n hx hb dX1_appendSwitch_0 rfl (lv_at hl 0 rfl) ?_
  refine va_get (D := D) (ci := 1) (v := .ref h_ends) (C := RX1) (T := TX1) (N := 6) hx hb hts inX1_appendSwitch_X1 hown hK hP 0 rfl rfl 0 (by decide) (hts _ lkX1_appendSwitch_0) (fun _ h9 => h9) rfl dX1_appendSwitch_1 ?_
  refine lv_aload_n hx hb dX1_appendSwitch_4 rfl (lv_at hl 0 rfl) ?_
  refine va_get (D := D) (ci := 1) (v := .int sc) (C := RX1) (T := TX1) (N := 6) hx hb hts inX1_appendSwitch_X1 hown hK hP 0 rfl rfl 2 (by decide) (hts _ lkX1_appendSwitch_1) (fun _ h9 => h9) rfl dX1_appendSwitch_5 ?_
  refine lv_iconst (v := 1) hx hb dX1_appendSwitch_8 (by decide) ?_
  refine lv_iload_n hx hb dX1_appendSwitch_9 rfl (lv_at hl 1 rfl) ?_
  refine lv_ishl hx hb dX1_appendSwitch_10 ?_
  refine lv_iconst (v := 1) hx hb dX1_appendSwitch_11 (by decide) ?_
  refine lv_iload_n hx hb dX1_appendSwitch_12 rfl (lv_at hl 2 rfl) ?_
  refine lv_ishl hx hb dX1_appendSwitch_13 ?_
  refine lv_ior hx hb dX1_appendSwitch_14 ?_
  obtain ⟨hi1, h⟩ := gin_e h
  refine va_iast hx hb hK hP hD hS 1 0 rfl rfl hi1 dX1_appendSwitch_15 (fun H locs hP hD hS => ?_)
  have hP : va_P D vwCl [(h_net, .inr (1, [.ref h_ends, .int nc, .int sc, .int br, .int so, .int lo])), (h_ends, .inl (cI, 24, .inl (upd ends sc.toNatClampNeg (((1 : Int32) <<< (p0 &&& 31)) ||| ((1 : Int32) <<< (p1 &&& 31))))))] H := hP
  have hD : va_D A [(h_net, .inr (1, [.ref h_ends, .int nc, .int sc, .int br, .int so, .int lo])), (h_ends, .inl (cI, 24, .inl (upd ends sc.toNatClampNeg (((1 : Int32) <<< (p0 &&& 31)) ||| ((1 : Int32) <<< (p1 &&& 31))))))] := hD
  refine lv_aload_n hx hb dX1_appendSwitch_16 rfl (lv_at hl 0 rfl) ?_
  refine lv_dup hx hb dX1_appendSwitch_17 rfl ?_
  refine va_get (D := D) (ci := 1) (v := .int br) (C := RX1) (T := TX1) (N := 6) hx hb hts inX1_appendSwitch_X1 hown hK hP 0 rfl rfl 3 (by decide) (hts _ lkX1_appendSwitch_2) (fun _ h9 => h9) rfl dX1_appendSwitch_18 ?_
  refine lv_iload_n hx hb dX1_appendSwitch_21 rfl (lv_at hl 3 rfl) ?_
  refine jn1_e (fun (y2 : Int32) => ∀ (H : Heap) (locs : List Loc) (ls : Array Slot), va_P D vwCl [(h_net, .inr (1, [.ref h_ends, .int nc, .int sc, .int br, .int so, .int lo])), (h_ends, .inl (cI, 24, .inl (upd ends sc.toNatClampNeg (((1 : Int32) <<< (p0 &&& 31)) ||| ((1 : Int32) <<< (p1 &&& 31))))))] H → va_D A [(h_net, .inr (1, [.ref h_ends, .int nc, .int sc, .int br, .int so, .int lo])), (h_ends, .inl (cI, 24, .inl (upd ends sc.toNatClampNeg (((1 : Int32) <<< (p0 &&& 31)) ||| ((1 : Int32) <<< (p1 &&& 31))))))] → va_S A s.heap H locs → lv_has ls 4 [(0, .ref h_net), (1, .int p0), (2, .int p1), (3, .int p2)] → W p l e (headSpec wsX1_appendSwitch rmX1_appendSwitch).room s m (([.ref h_net, .int p0, .int p1, .int p2] : List Value).toArray) below meth c H locs 0 0 QQ (F0 m 35 ls [.int y2, .int br, .ref h_net])) h (fun y2 h H locs ls hP hD hS hl => ?_) (fun g35_3 hg35_4 h => ?_)
  · refine lv_ior hx hb dX1_appendSwitch_35 ?_
    refine va_put (D := D) (ci := 1) (v := .int (br ||| y2)) (ty := .int) (C := RX1) (T := TX1) (N := 6) hx hb hts inX1_appendSwitch_X1 tyX1 tyX1_ok nmX1 hown hK hP hD hS 0 rfl rfl 3 (by decide) (hts _ lkX1_appendSwitch_2) (fun _ h9 => h9) rfl (by decide +kernel) rfl rfl (Nat.le_of_ble_eq_true rfl) dX1_appendSwitch_36 (fun H locs hP hD hS => ?_)
    have hP : va_P D vwCl [(h_net, .inr (1, [.ref h_ends, .int nc, .int sc, .int (br ||| y2), .int so, .int lo])), (h_ends, .inl (cI, 24, .inl (upd ends sc.toNatClampNeg (((1 : Int32) <<< (p0 &&& 31)) ||| ((1 : Int32) <<< (p1 &&& 31))))))] H := hP
    have hD : va_D A [(h_net, .inr (1, [.ref h_ends, .int nc, .int sc, .int (br ||| y2), .int so, .int lo])), (h_ends, .inl (cI, 24, .inl (upd ends sc.toNatClampNeg (((1 : Int32) <<< (p0 &&& 31)) ||| ((1 : Int32) <<< (p1 &&& 31))))))] := hD
    refine lv_aload_n hx hb dX1_appendSwitch_39 rfl (lv_at hl 0 rfl) ?_
    refine lv_dup hx hb dX1_appendSwitch_40 rfl ?_
    refine va_get (D := D) (ci := 1) (v := .int sc) (C := RX1) (T := TX1) (N := 6) hx hb hts inX1_appendSwitch_X1 hown hK hP 0 rfl rfl 2 (by decide) (hts _ lkX1_appendSwitch_1) (fun _ h9 => h9) rfl dX1_appendSwitch_41 ?_
    refine lv_dup_x1 hx hb dX1_appendSwitch_44 rfl rfl ?_
    refine lv_iconst (v := 1) hx hb dX1_appendSwitch_45 (by decide) ?_
    refine lv_iadd hx hb dX1_appendSwitch_46 ?_
    refine va_put (D := D) (ci := 1) (v := .int (sc + 1)) (ty := .int) (C := RX1) (T := TX1) (N := 6) hx hb hts inX1_appendSwitch_X1 tyX1 tyX1_ok nmX1 hown hK hP hD hS 0 rfl rfl 2 (by decide) (hts _ lkX1_appendSwitch_1) (fun _ h9 => h9) rfl (by decide +kernel) rfl rfl (Nat.le_of_ble_eq_true rfl) dX1_appendSwitch_47 (fun H locs hP hD hS => ?_)
    have hP : va_P D vwCl [(h_net, .inr (1, [.ref h_ends, .int nc, .int (sc + 1), .int (br ||| y2), .int so, .int lo])), (h_ends, .inl (cI, 24, .inl (upd ends sc.toNatClampNeg (((1 : Int32) <<< (p0 &&& 31)) ||| ((1 : Int32) <<< (p1 &&& 31))))))] H := hP
    have hD : va_D A [(h_net, .inr (1, [.ref h_ends, .int nc, .int (sc + 1), .int (br ||| y2), .int so, .int lo])), (h_ends, .inl (cI, 24, .inl (upd ends sc.toNatClampNeg (((1 : Int32) <<< (p0 &&& 31)) ||| ((1 : Int32) <<< (p1 &&& 31))))))] := hD
    cases h
    rw [hQQ]
    exact W.iret hx hb hr (fun t ht hW => ⟨rfl, by rw [ht]; exact hP, hD, hS.F ht⟩) hS.2.2 dX1_appendSwitch_50
  · refine lv_if_eq (tgt := 34) hx hb dX1_appendSwitch_22 (by decide) (fun c5 => ?_) (fun c5 => ?_)
    · have h := it_t h c5
      refine lv_iconst (v := 0) hx hb dX1_appendSwitch_34 (by decide) ?_
      exact hg35_4 0 h H locs ls hP hD hS (lv_sub hl [0, 1, 2, 3] rfl)
    · have h := it_f h c5
      refine lv_iconst (v := 1) hx hb dX1_appendSwitch_25 (by decide) ?_
      refine lv_aload_n hx hb dX1_appendSwitch_26 rfl (lv_at hl 0 rfl) ?_
      refine va_get (D := D) (ci := 1) (v := .int sc) (C := RX1) (T := TX1) (N := 6) hx hb hts inX1_appendSwitch_X1 hown hK hP 0 rfl rfl 2 (by decide) (hts _ lkX1_appendSwitch_1) (fun _ h9 => h9) rfl dX1_appendSwitch_27 ?_
      refine lv_ishl hx hb dX1_appendSwitch_30 ?_
      refine lv_goto (tgt := 35) hx hb dX1_appendSwitch_31 (by decide) ?_
      exact hg35_4 ((1 : Int32) <<< (sc &&& 31)) h H locs ls hP hD hS (lv_sub hl [0, 1, 2, 3] rfl)

def fX1_connectedWith (N : Nat) (nc : Int32) (sc : Int32) (br : Int32) (so : Int32) (lo : Int32) (ends : Nat → Int32) (tcl : Int32) (tea : Int32) (ton : Int32) (p0 : Int32) : Option ((Int32)) :=
  it2 (fun g5_3 (x1 : Int32) (x2 : Int32) => (if nc ≤ x1 then some x2 else it2 (fun g20_8 (x6 : Int32) (x7 : Int32) => (if sc ≤ x6 then (if x7 = x2 then some x7 else g5_3 (x1 + 1) x7) else jn1 (fun (y12 : Int32) => (if y12 = 0 then g20_8 (x6 + 1) (x7 ||| 0) else gin x6 24 ((if ((ends x6.toNatClampNeg) &&& x7) = 0 then g20_8 (x6 + 1) (x7 ||| 0) else gin x6 24 (g20_8 (x6 + 1) (x7 ||| (ends x6.toNatClampNeg))))))) (fun g46_13 => (if ((tcl >>> (x6 &&& 31)) &&& 1) = 0 then g46_13 0 else g46_13 1)))) N 0 x2)) N 0 p0
set_option maxRecDepth 100000 in
theorem inX1_connectedWith_X1 : ∀ w ∈ wsX10, w ∈ wsX1_connectedWith := by decide +kernel
set_option maxRecDepth 100000 in
theorem inX1_connectedWith_X3 : ∀ w ∈ wsX30, w ∈ wsX1_connectedWith := by decide +kernel
set_option maxRecDepth 100000 in
theorem lkX1_connectedWith_0 : (.fieldLink RX1 15 "Switchlog$Net" "nodeCount" "I" : Cond) ∈ wsX1_connectedWith := by decide +kernel
set_option maxRecDepth 100000 in
theorem lkX1_connectedWith_1 : (.fieldLink RX1 19 "Switchlog$Net" "switchCount" "I" : Cond) ∈ wsX1_connectedWith := by decide +kernel
set_option maxRecDepth 100000 in
theorem lkX1_connectedWith_2 : (.fieldLink RX1 9 "Switchlog$Net" "ends" "[I" : Cond) ∈ wsX1_connectedWith := by decide +kernel
abbrev rmX1_connectedWith : Room := { frames := 0, cells := 0, slots := 0, locals := 0 }
set_option maxHeartbeats 4000000 in
set_option maxRecDepth 100000 in
theorem kX1_connectedWith (l : Launch) (D : va_G) (cI cZ cL : ClassId) (h_net h_ends h_st : Nat) (nc : Int32) (sc : Int32) (br : Int32) (so : Int32) (lo : Int32) (ends : Nat → Int32) (tcl : Int32) (tea : Int32) (ton : Int32) (p0 : Int32) (N : Nat) {r : Int32} (h : fX1_connectedWith N nc sc br so lo ends tcl tea ton p0 = some r) : Met l yX1_connectedWith wsX1_connectedWith rmX1_connectedWith (PR D cI cZ cL [.ref h_net, .int p0, .ref h_st] [(h_net, .inr (1, [.ref h_ends, .int nc, .int sc, .int br, .int so, .int lo])), (h_ends, .inl (cI, 24, .inl ends)), (h_st, .inr (3, [.int tcl, .int tea, .int ton]))]) (vp_Si (fun z => z = r)) 0 0 (fun _ => False) := by
  refine Met.ofW (cc := cX1_connectedWith) (maxL := 8) (ret := (some .int)) (by decide) rfl ?_
  intro p e s m args below meth c s₁ B hml hv
  obtain ⟨rfl, hP, hKK⟩ := hv
  have hK := hKK.1
  have hx := B.exec
  have hb := B.bytes
  have hr := B.returns
  have hts := atoms_spec (ws := wsX1_connectedWith) B.pre
  have hown : s.vm.findClass RX1 = some m.cls := findClass_of_methodNamed B.named
  have hlocks := B.notSynchronized
  have hl := lv_entry ([.ref h_net, .int p0, .ref h_st]) (n := 8) (Nat.le_of_ble_eq_true rfl)
  rw [lg_entry_eq]
  generalize (lg_sl ([.ref h_net, .int p0, .ref h_st]) ++ List.replicate (8 - (lg_sl ([.ref h_net, .int p0, .ref h_st])).length) Slot.unset).toArray = ls at hl ⊢
  have hl : lv_has ls 8 [(0, .ref h_net), (1, .int p0), (2, .ref h_st)] := hl
  obtain ⟨QQ, hQQ⟩ : ∃ Z, Z = MQ below (vp_Si (fun z => z = r)) ([.ref h_net, .int p0, .ref h_st] : List Value).toArray s 0 0 (fun _ => False) := ⟨_, rfl⟩
  rw [← hQQ]
  unfold fX1_connectedWith at h
  refine lv_iload_n hx hb dX1_connectedWith_0 rfl (lv_at hl 1 rfl) ?_
  refine lv_istore_n (lv' := [(3, .int p0), (0, .ref h_net), (1, .int p0), (2, .ref h_st)]) hx hb dX1_connectedWith_1 rfl hl (by decide) rfl (fun ls hl => ?_)
  refine lv_iconst (v := 0) hx hb dX1_connectedWith_2 (by decide) ?_
  refine lv_istore (lv' := [(4, .int 0), (3, .int p0), (0, .ref h_net), (1, .int p0), (2, .ref h_st)]) hx hb dX1_connectedWith_3 hl (by decide) rfl (fun ls hl => ?_)
  refine it2_e (fun (x1 : Int32) (x2 : Int32) => ∀ ls : Array Slot, lv_has ls 8 [(4, .int x1), (3, .int x2), (0, .ref h_net), (1, .int p0), (2, .ref h_st)] → W p l e (headSpec wsX1_connectedWith rmX1_connectedWith).room s m (([.ref h_net, .int p0, .ref h_st] : List Value).toArray) below meth c s.heap [] 0 0 QQ (F0 m 5 ls [])) (fun g5_3 hg5_4 x1 x2 h ls hl => ?_) N 0 p0 h ls (lv_sub hl [0, 1, 2, 3, 4] rfl)
  refine lv_iload hx hb dX1_connectedWith_5 (lv_at hl 0 rfl) ?_
  refine lv_aload_n hx hb dX1_connectedWith_7 rfl (lv_at hl 2 rfl) ?_
  refine va_get (D := D) (ci := 1) (v := .int nc) (C := RX1) (T := TX1) (N := 6) hx hb hts inX1_connectedWith_X1 hown hK hP 0 rfl rfl 1 (by decide) (hts _ lkX1_connectedWith_0) (fun _ h9 => h9) rfl dX1_connectedWith_8 ?_
  refine lv_icmp_ge (tgt := 100) hx hb dX1_connectedWith_11 (by decide) (fun c5 => ?_) (fun c5 => ?_)
  · have h := it_t h c5
    refine lv_iload_n hx hb dX1_connectedWith_100 rfl (lv_at hl 1 rfl) ?_
    rw [hQQ]
    exact W.iret (v := x2) hx hb hr (fun t ht hW => ⟨_, rfl, Option.some.inj h, ht⟩) (fun q hq => absurd hq List.not_mem_nil) dX1_connectedWith_101
  · have h := it_f h c5
    refine lv_iload_n hx hb dX1_connectedWith_14 rfl (lv_at hl 1 rfl) ?_
    refine lv_istore (lv' := [(5, .int x2), (4, .int x1), (3, .int x2), (0, .ref h_net), (1, .int p0), (2, .ref h_st)]) hx hb dX1_connectedWith_15 hl (by decide) rfl (fun ls hl => ?_)
    refine lv_iconst (v := 0) hx hb dX1_connectedWith_17 (by decide) ?_
    refine lv_istore (lv' := [(6, .int 0), (5, .int x2), (4, .int x1), (3, .int x2), (0, .ref h_net), (1, .int p0), (2, .ref h_st)]) hx hb dX1_connectedWith_18 hl (by decide) rfl (fun ls hl => ?_)
    refine it2_e (fun (x6 : Int32) (x7 : Int32) => ∀ ls : Array Slot, lv_has ls 8 [(6, .int x6), (5, .int x2), (4, .int x1), (3, .int x7), (0, .ref h_net), (1, .int p0), (2, .ref h_st)] → W p l e (headSpec wsX1_connectedWith rmX1_connectedWith).room s m (([.ref h_net, .int p0, .ref h_st] : List Value).toArray) below meth c s.heap [] 0 0 QQ (F0 m 20 ls [])) (fun g20_8 hg20_9 x6 x7 h ls hl => ?_) N 0 x2 h ls (lv_sub hl [0, 1, 2, 3, 4, 5, 6] rfl)
    refine lv_iload hx hb dX1_connectedWith_20 (lv_at hl 0 rfl) ?_
    refine lv_aload_n hx hb dX1_connectedWith_22 rfl (lv_at hl 4 rfl) ?_
    refine va_get (D := D) (ci := 1) (v := .int sc) (C := RX1) (T := TX1) (N := 6) hx hb hts inX1_connectedWith_X1 hown hK hP 0 rfl rfl 2 (by decide) (hts _ lkX1_connectedWith_1) (fun _ h9 => h9) rfl dX1_connectedWith_23 ?_
    refine lv_icmp_ge (tgt := 85) hx hb dX1_connectedWith_26 (by decide) (fun c10 => ?_) (fun c10 => ?_)
    · have h := it_t h c10
      refine lv_iload_n hx hb dX1_connectedWith_85 rfl (lv_at hl 3 rfl) ?_
      refine lv_iload hx hb dX1_connectedWith_86 (lv_at hl 1 rfl) ?_
      refine lv_icmp_ne (tgt := 94) hx hb dX1_connectedWith_88 (by decide) (fun c11 => ?_) (fun c11 => ?_)
      · have h := it_f h c11
        refine lv_iinc (v := x1 + 1) (lv' := [(4, .int (x1 + 1)), (6, .int x6), (5, .int x2), (3, .int x7), (0, .ref h_net), (1, .int p0), (2, .ref h_st)]) hx hb dX1_connectedWith_94 hl (k := 2) rfl rfl (by decide) rfl (fun ls hl => ?_)
        refine lv_goto (tgt := 5) hx hb dX1_connectedWith_97 (by decide) ?_
        exact hg5_4 (x1 + 1) x7 h ls (lv_sub hl [0, 3, 4, 5, 6] rfl)
      · have h := it_t h c11
        refine lv_goto (tgt := 100) hx hb dX1_connectedWith_91 (by decide) ?_
        refine lv_iload_n hx hb dX1_connectedWith_100 rfl (lv_at hl 3 rfl) ?_
        rw [hQQ]
        exact W.iret (v := x7) hx hb hr (fun t ht hW => ⟨_, rfl, Option.some.inj h, ht⟩) (fun q hq => absurd hq List.not_mem_nil) dX1_connectedWith_101
    · have h := it_f h c10
      refine lv_aload_n hx hb dX1_connectedWith_29 rfl (lv_at hl 6 rfl) ?_
      refine va_getN (D := D) (ci := 3) (v := .int tcl) (C := RX3) (T := TX3) (N := 3) hx hb hts inX1_connectedWith_X3 hown hK hP 2 rfl rfl 0 (by decide) (va_Nw.use rfl hKK.2.2.2.1) (fun _ h9 => h9) rfl dX1_connectedWith_30 ?_
      refine lv_iload hx hb dX1_connectedWith_33 (lv_at hl 0 rfl) ?_
      refine lv_ishr hx hb dX1_connectedWith_35 ?_
      refine lv_iconst (v := 1) hx hb dX1_connectedWith_36 (by decide) ?_
      refine lv_iand hx hb dX1_connectedWith_37 ?_
      refine jn1_e (fun (y12 : Int32) => ∀ ls : Array Slot, lv_has ls 8 [(6, .int x6), (5, .int x2), (4, .int x1), (3, .int x7), (0, .ref h_net), (1, .int p0), (2, .ref h_st)] → W p l e (headSpec wsX1_connectedWith rmX1_connectedWith).room s m (([.ref h_net, .int p0, .ref h_st] : List Value).toArray) below meth c s.heap [] 0 0 QQ (F0 m 46 ls [.int y12])) h (fun y12 h ls hl => ?_) (fun g46_13 hg46_14 h => ?_)
      · refine lv_istore (lv' := [(7, .int y12), (6, .int x6), (5, .int x2), (4, .int x1), (3, .int x7), (0, .ref h_net), (1, .int p0), (2, .ref h_st)]) hx hb dX1_connectedWith_46 hl (by decide) rfl (fun ls hl => ?_)
        refine lv_iload_n hx hb dX1_connectedWith_48 rfl (lv_at hl 4 rfl) ?_
        refine lv_iload hx hb dX1_connectedWith_49 (lv_at hl 0 rfl) ?_
        refine lv_if_eq (tgt := 76) hx hb dX1_connectedWith_51 (by decide) (fun c15 => ?_) (fun c15 => ?_)
        · have h := it_t h c15
          refine lv_iconst (v := 0) hx hb dX1_connectedWith_76 (by decide) ?_
          refine lv_ior hx hb dX1_connectedWith_77 ?_
          refine lv_istore_n (lv' := [(3, .int (x7 ||| 0)), (7, .int y12), (6, .int x6), (5, .int x2), (4, .int x1), (0, .ref h_net), (1, .int p0), (2, .ref h_st)]) hx hb dX1_connectedWith_78 rfl hl (by decide) rfl (fun ls hl => ?_)
          refine lv_iinc (v := x6 + 1) (lv' := [(6, .int (x6 + 1)), (3, .int (x7 ||| 0)), (7, .int y12), (5, .int x2), (4, .int x1), (0, .ref h_net), (1, .int p0), (2, .ref h_st)]) hx hb dX1_connectedWith_79 hl (k := 2) rfl rfl (by decide) rfl (fun ls hl => ?_)
          refine lv_goto (tgt := 20) hx hb dX1_connectedWith_82 (by decide) ?_
          exact hg20_9 (x6 + 1) (x7 ||| 0) h ls (lv_sub hl [0, 3, 4, 1, 5, 6, 7] rfl)
        · have h := it_f h c15
          refine lv_aload_n hx hb dX1_connectedWith_54 rfl (lv_at hl 5 rfl) ?_
          refine va_get (D := D) (ci := 1) (v := .ref h_ends) (C := RX1) (T := TX1) (N := 6) hx hb hts inX1_connectedWith_X1 hown hK hP 0 rfl rfl 0 (by decide) (hts _ lkX1_connectedWith_2) (fun _ h9 => h9) rfl dX1_connectedWith_55 ?_
          refine lv_iload hx hb dX1_connectedWith_58 (lv_at hl 1 rfl) ?_
          obtain ⟨hi16, h⟩ := gin_e h
          refine va_iald hx hb hK hP 1 0 rfl rfl hi16 dX1_connectedWith_60 ?_
          refine lv_iload_n hx hb dX1_connectedWith_61 rfl (lv_at hl 4 rfl) ?_
          refine lv_iand hx hb dX1_connectedWith_62 ?_
          refine lv_if_eq (tgt := 76) hx hb dX1_connectedWith_63 (by decide) (fun c17 => ?_) (fun c17 => ?_)
          · have h := it_t h c17
            refine lv_iconst (v := 0) hx hb dX1_connectedWith_76 (by decide) ?_
            refine lv_ior hx hb dX1_connectedWith_77 ?_
            refine lv_istore_n (lv' := [(3, .int (x7 ||| 0)), (7, .int y12), (6, .int x6), (5, .int x2), (4, .int x1), (0, .ref h_net), (1, .int p0), (2, .ref h_st)]) hx hb dX1_connectedWith_78 rfl hl (by decide) rfl (fun ls hl => ?_)
            refine lv_iinc (v := x6 + 1) (lv' := [(6, .int (x6 + 1)), (3, .int (x7 ||| 0)), (7, .int y12), (5, .int x2), (4, .int x1), (0, .ref h_net), (1, .int p0), (2, .ref h_st)]) hx hb dX1_connectedWith_79 hl (k := 2) rfl rfl (by decide) rfl (fun ls hl => ?_)
            refine lv_goto (tgt := 20) hx hb dX1_connectedWith_82 (by decide) ?_
            exact hg20_9 (x6 + 1) (x7 ||| 0) h ls (lv_sub hl [0, 3, 4, 1, 5, 6, 7] rfl)
          · have h := it_f h c17
            refine lv_aload_n hx hb dX1_connectedWith_66 rfl (lv_at hl 5 rfl) ?_
            refine va_get (D := D) (ci := 1) (v := .ref h_ends) (C := RX1) (T := TX1) (N := 6) hx hb hts inX1_connectedWith_X1 hown hK hP 0 rfl rfl 0 (by decide) (hts _ lkX1_connectedWith_2) (fun _ h9 => h9) rfl dX1_connectedWith_67 ?_
            refine lv_iload hx hb dX1_connectedWith_70 (lv_at hl 1 rfl) ?_
            obtain ⟨hi18, h⟩ := gin_e h
            refine va_iald hx hb hK hP 1 0 rfl rfl hi18 dX1_connectedWith_72 ?_
            refine lv_goto (tgt := 77) hx hb dX1_connectedWith_73 (by decide) ?_
            refine lv_ior hx hb dX1_connectedWith_77 ?_
            refine lv_istore_n (lv' := [(3, .int (x7 ||| (ends x6.toNatClampNeg))), (7, .int y12), (6, .int x6), (5, .int x2), (4, .int x1), (0, .ref h_net), (1, .int p0), (2, .ref h_st)]) hx hb dX1_connectedWith_78 rfl hl (by decide) rfl (fun ls hl => ?_)
            refine lv_iinc (v := x6 + 1) (lv' := [(6, .int (x6 + 1)), (3, .int (x7 ||| (ends x6.toNatClampNeg))), (7, .int y12), (5, .int x2), (4, .int x1), (0, .ref h_net), (1, .int p0), (2, .ref h_st)]) hx hb dX1_connectedWith_79 hl (k := 2) rfl rfl (by decide) rfl (fun ls hl => ?_)
            refine lv_goto (tgt := 20) hx hb dX1_connectedWith_82 (by decide) ?_
            exact hg20_9 (x6 + 1) (x7 ||| (ends x6.toNatClampNeg)) h ls (lv_sub hl [0, 3, 4, 1, 5, 6, 7] rfl)
      · refine lv_if_eq (tgt := 45) hx hb dX1_connectedWith_38 (by decide) (fun c19 => ?_) (fun c19 => ?_)
        · have h := it_t h c19
          refine lv_iconst (v := 0) hx hb dX1_connectedWith_45 (by decide) ?_
          exact hg46_14 0 h ls (lv_sub hl [0, 1, 2, 3, 4, 5, 6] rfl)
        · have h := it_f h c19
          refine lv_iconst (v := 1) hx hb dX1_connectedWith_41 (by decide) ?_
          refine lv_goto (tgt := 46) hx hb dX1_connectedWith_42 (by decide) ?_
          exact hg46_14 1 h ls (lv_sub hl [0, 1, 2, 3, 4, 5, 6] rfl)

def fX1_liveNodes (N : Nat) (nc : Int32) (sc : Int32) (br : Int32) (so : Int32) (lo : Int32) (ends : Nat → Int32) (tcl : Int32) (tea : Int32) (ton : Int32) : Option ((Int32)) :=
  bd1 (fX1_connectedWith N nc sc br so lo ends tcl tea ton ton) (fun v1 => some v1)
set_option maxRecDepth 100000 in
theorem inX1_liveNodes_X3 : ∀ w ∈ wsX30, w ∈ wsX1_liveNodes := by decide +kernel
abbrev rmX1_liveNodes : Room := { frames := 1, cells := 0, slots := 0, locals := 27 }
set_option maxHeartbeats 4000000 in
set_option maxRecDepth 100000 in
theorem kX1_liveNodes (l : Launch) (D : va_G) (cI cZ cL : ClassId) (h_net h_ends h_st : Nat) (nc : Int32) (sc : Int32) (br : Int32) (so : Int32) (lo : Int32) (ends : Nat → Int32) (tcl : Int32) (tea : Int32) (ton : Int32)  (N : Nat) {r : Int32} (h : fX1_liveNodes N nc sc br so lo ends tcl tea ton  = some r) : Met l yX1_liveNodes wsX1_liveNodes rmX1_liveNodes (PR D cI cZ cL [.ref h_net, .ref h_st] [(h_net, .inr (1, [.ref h_ends, .int nc, .int sc, .int br, .int so, .int lo])), (h_ends, .inl (cI, 24, .inl ends)), (h_st, .inr (3, [.int tcl, .int tea, .int ton]))]) (vp_Si (fun z => z = r)) 0 0 (fun _ => False) := by
  refine Met.ofW (cc := cX1_liveNodes) (maxL := 2) (ret := (some .int)) (by decide) rfl ?_
  intro p e s m args below meth c s₁ B hml hv
  obtain ⟨rfl, hP, hKK⟩ := hv
  have hK := hKK.1
  have hx := B.exec
  have hb := B.bytes
  have hr := B.returns
  have hts := atoms_spec (ws := wsX1_liveNodes) B.pre
  have hown : s.vm.findClass RX1 = some m.cls := findClass_of_methodNamed B.named
  have hlocks := B.notSynchronized
  have hl := lv_entry ([.ref h_net, .ref h_st]) (n := 2) (Nat.le_of_ble_eq_true rfl)
  rw [lg_entry_eq]
  generalize (lg_sl ([.ref h_net, .ref h_st]) ++ List.replicate (2 - (lg_sl ([.ref h_net, .ref h_st])).length) Slot.unset).toArray = ls at hl ⊢
  have hl : lv_has ls 2 [(0, .ref h_net), (1, .ref h_st)] := hl
  obtain ⟨QQ, hQQ⟩ : ∃ Z, Z = MQ below (vp_Si (fun z => z = r)) ([.ref h_net, .ref h_st] : List Value).toArray s 0 0 (fun _ => False) := ⟨_, rfl⟩
  rw [← hQQ]
  unfold fX1_liveNodes at h
  refine lv_aload_n hx hb dX1_liveNodes_0 rfl (lv_at hl 0 rfl) ?_
  refine lv_aload_n hx hb dX1_liveNodes_1 rfl (lv_at hl 1 rfl) ?_
  refine va_getN (D := D) (ci := 3) (v := .int ton) (C := RX3) (T := TX3) (N := 3) hx hb hts inX1_liveNodes_X3 hown hK hP 2 rfl rfl 2 (by decide) (va_Nw.use rfl hKK.2.1) (fun _ h9 => h9) rfl dX1_liveNodes_2 ?_
  refine lv_aload_n hx hb dX1_liveNodes_5 rfl (lv_at hl 1 rfl) ?_
  obtain ⟨v1, hq2, h⟩ := bd1_e h
  refine zz_cV (As := [.int ton, .ref h_st]) ⟨hx, hb, hml, hown, hts⟩ (kX1_connectedWith l D cI cZ cL h_net h_ends h_st nc sc br so lo ends tcl tea ton ton N hq2) (cwV 2 hts gX1_liveNodes_X1_connectedWith rfl rfl rfl (by decide +kernel) ⟨Nat.le_of_ble_eq_true rfl, Nat.le_of_ble_eq_true rfl⟩) (hP.sub (ws' := [(h_net, .inr (1, [.ref h_ends, .int nc, .int sc, .int br, .int so, .int lo])), (h_ends, .inl (cI, 24, .inl ends)), (h_st, .inr (3, [.int tcl, .int tea, .int ton]))]) [0, 1, 2] rfl) hKK (va_recv hK hP (ci := 1) (q0 := 0) rfl rfl) rfl hl.1 rfl (Nat.le_of_ble_eq_true rfl) dX1_liveNodes_6 ⟨Nat.le_of_ble_eq_true rfl, Nat.le_of_ble_eq_true rfl⟩ ?_
  rw [hQQ]
  exact W.iret (v := v1) hx hb hr (fun t ht hW => ⟨_, rfl, Option.some.inj h, ht⟩) (fun q hq => absurd hq List.not_mem_nil) dX1_liveNodes_9

def fX1_earthedNodes (N : Nat) (nc : Int32) (sc : Int32) (br : Int32) (so : Int32) (lo : Int32) (ends : Nat → Int32) (tcl : Int32) (tea : Int32) (ton : Int32) : Option ((Int32)) :=
  bd1 (fX1_connectedWith N nc sc br so lo ends tcl tea ton tea) (fun v1 => some v1)
set_option maxRecDepth 100000 in
theorem inX1_earthedNodes_X3 : ∀ w ∈ wsX30, w ∈ wsX1_earthedNodes := by decide +kernel
abbrev rmX1_earthedNodes : Room := { frames := 1, cells := 0, slots := 0, locals := 27 }
set_option maxHeartbeats 4000000 in
set_option maxRecDepth 100000 in
theorem kX1_earthedNodes (l : Launch) (D : va_G) (cI cZ cL : ClassId) (h_net h_ends h_st : Nat) (nc : Int32) (sc : Int32) (br : Int32) (so : Int32) (lo : Int32) (ends : Nat → Int32) (tcl : Int32) (tea : Int32) (ton : Int32)  (N : Nat) {r : Int32} (h : fX1_earthedNodes N nc sc br so lo ends tcl tea ton  = some r) : Met l yX1_earthedNodes wsX1_earthedNodes rmX1_earthedNodes (PR D cI cZ cL [.ref h_net, .ref h_st] [(h_net, .inr (1, [.ref h_ends, .int nc, .int sc, .int br, .int so, .int lo])), (h_ends, .inl (cI, 24, .inl ends)), (h_st, .inr (3, [.int tcl, .int tea, .int ton]))]) (vp_Si (fun z => z = r)) 0 0 (fun _ => False) := by
  refine Met.ofW (cc := cX1_earthedNodes) (maxL := 2) (ret := (some .int)) (by decide) rfl ?_
  intro p e s m args below meth c s₁ B hml hv
  obtain ⟨rfl, hP, hKK⟩ := hv
  have hK := hKK.1
  have hx := B.exec
  have hb := B.bytes
  have hr := B.returns
  have hts := atoms_spec (ws := wsX1_earthedNodes) B.pre
  have hown : s.vm.findClass RX1 = some m.cls := findClass_of_methodNamed B.named
  have hlocks := B.notSynchronized
  have hl := lv_entry ([.ref h_net, .ref h_st]) (n := 2) (Nat.le_of_ble_eq_true rfl)
  rw [lg_entry_eq]
  generalize (lg_sl ([.ref h_net, .ref h_st]) ++ List.replicate (2 - (lg_sl ([.ref h_net, .ref h_st])).length) Slot.unset).toArray = ls at hl ⊢
  have hl : lv_has ls 2 [(0, .ref h_net), (1, .ref h_st)] := hl
  obtain ⟨QQ, hQQ⟩ : ∃ Z, Z = MQ below (vp_Si (fun z => z = r)) ([.ref h_net, .ref h_st] : List Value).toArray s 0 0 (fun _ => False) := ⟨_, rfl⟩
  rw [← hQQ]
  unfold fX1_earthedNodes at h
  refine lv_aload_n hx hb dX1_earthedNodes_0 rfl (lv_at hl 0 rfl) ?_
  refine lv_aload_n hx hb dX1_earthedNodes_1 rfl (lv_at hl 1 rfl) ?_
  refine va_getN (D := D) (ci := 3) (v := .int tea) (C := RX3) (T := TX3) (N := 3) hx hb hts inX1_earthedNodes_X3 hown hK hP 2 rfl rfl 1 (by decide) (va_Nw.use rfl hKK.2.2.1) (fun _ h9 => h9) rfl dX1_earthedNodes_2 ?_
  refine lv_aload_n hx hb dX1_earthedNodes_5 rfl (lv_at hl 1 rfl) ?_
  obtain ⟨v1, hq2, h⟩ := bd1_e h
  refine zz_cV (As := [.int tea, .ref h_st]) ⟨hx, hb, hml, hown, hts⟩ (kX1_connectedWith l D cI cZ cL h_net h_ends h_st nc sc br so lo ends tcl tea ton tea N hq2) (cwV 2 hts gX1_earthedNodes_X1_connectedWith rfl rfl rfl (by decide +kernel) ⟨Nat.le_of_ble_eq_true rfl, Nat.le_of_ble_eq_true rfl⟩) (hP.sub (ws' := [(h_net, .inr (1, [.ref h_ends, .int nc, .int sc, .int br, .int so, .int lo])), (h_ends, .inl (cI, 24, .inl ends)), (h_st, .inr (3, [.int tcl, .int tea, .int ton]))]) [0, 1, 2] rfl) hKK (va_recv hK hP (ci := 1) (q0 := 0) rfl rfl) rfl hl.1 rfl (Nat.le_of_ble_eq_true rfl) dX1_earthedNodes_6 ⟨Nat.le_of_ble_eq_true rfl, Nat.le_of_ble_eq_true rfl⟩ ?_
  rw [hQQ]
  exact W.iret (v := v1) hx hb hr (fun t ht hW => ⟨_, rfl, Option.some.inj h, ht⟩) (fun q hq => absurd hq List.not_mem_nil) dX1_earthedNodes_9

def fX1_loadedNodes (N : Nat) (nc : Int32) (sc : Int32) (br : Int32) (so : Int32) (lo : Int32) (ends : Nat → Int32) (tcl : Int32) (tea : Int32) (ton : Int32) : Option ((Int32)) :=
  bd1 (fX1_connectedWith N nc sc br so lo ends tcl tea ton ton) (fun v1 => bd1 (fX1_connectedWith N nc sc br so lo ends tcl tea ton lo) (fun v3 => some (v1 &&& v3)))
set_option maxRecDepth 100000 in
theorem inX1_loadedNodes_X1 : ∀ w ∈ wsX10, w ∈ wsX1_loadedNodes := by decide +kernel
set_option maxRecDepth 100000 in
theorem inX1_loadedNodes_X3 : ∀ w ∈ wsX30, w ∈ wsX1_loadedNodes := by decide +kernel
set_option maxRecDepth 100000 in
theorem lkX1_loadedNodes_0 : (.fieldLink RX1 25 "Switchlog$Net" "loads" "I" : Cond) ∈ wsX1_loadedNodes := by decide +kernel
abbrev rmX1_loadedNodes : Room := { frames := 1, cells := 0, slots := 0, locals := 27 }
set_option maxHeartbeats 4000000 in
set_option maxRecDepth 100000 in
theorem kX1_loadedNodes (l : Launch) (D : va_G) (cI cZ cL : ClassId) (h_net h_ends h_st : Nat) (nc : Int32) (sc : Int32) (br : Int32) (so : Int32) (lo : Int32) (ends : Nat → Int32) (tcl : Int32) (tea : Int32) (ton : Int32)  (N : Nat) {r : Int32} (h : fX1_loadedNodes N nc sc br so lo ends tcl tea ton  = some r) : Met l yX1_loadedNodes wsX1_loadedNodes rmX1_loadedNodes (PR D cI cZ cL [.ref h_net, .ref h_st] [(h_net, .inr (1, [.ref h_ends, .int nc, .int sc, .int br, .int so, .int lo])), (h_ends, .inl (cI, 24, .inl ends)), (h_st, .inr (3, [.int tcl, .int tea, .int ton]))]) (vp_Si (fun z => z = r)) 0 0 (fun _ => False) := by
  refine Met.ofW (cc := cX1_loadedNodes) (maxL := 2) (ret := (some .int)) (by decide) rfl ?_
  intro p e s m args below meth c s₁ B hml hv
  obtain ⟨rfl, hP, hKK⟩ := hv
  have hK := hKK.1
  have hx := B.exec
  have hb := B.bytes
  have hr := B.returns
  have hts := atoms_spec (ws := wsX1_loadedNodes) B.pre
  have hown : s.vm.findClass RX1 = some m.cls := findClass_of_methodNamed B.named
  have hlocks := B.notSynchronized
  have hl := lv_entry ([.ref h_net, .ref h_st]) (n := 2) (Nat.le_of_ble_eq_true rfl)
  rw [lg_entry_eq]
  generalize (lg_sl ([.ref h_net, .ref h_st]) ++ List.replicate (2 - (lg_sl ([.ref h_net, .ref h_st])).length) Slot.unset).toArray = ls at hl ⊢
  have hl : lv_has ls 2 [(0, .ref h_net), (1, .ref h_st)] := hl
  obtain ⟨QQ, hQQ⟩ : ∃ Z, Z = MQ below (vp_Si (fun z => z = r)) ([.ref h_net, .ref h_st] : List Value).toArray s 0 0 (fun _ => False) := ⟨_, rfl⟩
  rw [← hQQ]
  unfold fX1_loadedNodes at h
  refine lv_aload_n hx hb dX1_loadedNodes_0 rfl (lv_at hl 0 rfl) ?_
  refine lv_aload_n hx hb dX1_loadedNodes_1 rfl (lv_at hl 1 rfl) ?_
  refine va_getN (D := D) (ci := 3) (v := .int ton) (C := RX3) (T := TX3) (N := 3) hx hb hts inX1_loadedNodes_X3 hown hK hP 2 rfl rfl 2 (by decide) (va_Nw.use rfl hKK.2.1) (fun _ h9 => h9) rfl dX1_loadedNodes_2 ?_
  refine lv_aload_n hx hb dX1_loadedNodes_5 rfl (lv_at hl 1 rfl) ?_
  obtain ⟨v1, hq2, h⟩ := bd1_e h
  refine zz_cV (As := [.int ton, .ref h_st]) ⟨hx, hb, hml, hown, hts⟩ (kX1_connectedWith l D cI cZ cL h_net h_ends h_st nc sc br so lo ends tcl tea ton ton N hq2) (cwV 2 hts gX1_loadedNodes_X1_connectedWith rfl rfl rfl (by decide +kernel) ⟨Nat.le_of_ble_eq_true rfl, Nat.le_of_ble_eq_true rfl⟩) (hP.sub (ws' := [(h_net, .inr (1, [.ref h_ends, .int nc, .int sc, .int br, .int so, .int lo])), (h_ends, .inl (cI, 24, .inl ends)), (h_st, .inr (3, [.int tcl, .int tea, .int ton]))]) [0, 1, 2] rfl) hKK (va_recv hK hP (ci := 1) (q0 := 0) rfl rfl) rfl hl.1 rfl (Nat.le_of_ble_eq_true rfl) dX1_loadedNodes_6 ⟨Nat.le_of_ble_eq_true rfl, Nat.le_of_ble_eq_true rfl⟩ ?_
  refine lv_aload_n hx hb dX1_loadedNodes_9 rfl (lv_at hl 0 rfl) ?_
  refine lv_aload_n hx hb dX1_loadedNodes_10 rfl (lv_at hl 0 rfl) ?_
  refine va_get (D := D) (ci := 1) (v := .int lo) (C := RX1) (T := TX1) (N := 6) hx hb hts inX1_loadedNodes_X1 hown hK hP 0 rfl rfl 5 (by decide) (hts _ lkX1_loadedNodes_0) (fun _ h9 => h9) rfl dX1_loadedNodes_11 ?_
  refine lv_aload_n hx hb dX1_loadedNodes_14 rfl (lv_at hl 1 rfl) ?_
  obtain ⟨v3, hq4, h⟩ := bd1_e h
  refine zz_cV (As := [.int lo, .ref h_st]) ⟨hx, hb, hml, hown, hts⟩ (kX1_connectedWith l D cI cZ cL h_net h_ends h_st nc sc br so lo ends tcl tea ton lo N hq4) (cwV 2 hts gX1_loadedNodes_X1_connectedWith rfl rfl rfl (by decide +kernel) ⟨Nat.le_of_ble_eq_true rfl, Nat.le_of_ble_eq_true rfl⟩) (hP.sub (ws' := [(h_net, .inr (1, [.ref h_ends, .int nc, .int sc, .int br, .int so, .int lo])), (h_ends, .inl (cI, 24, .inl ends)), (h_st, .inr (3, [.int tcl, .int tea, .int ton]))]) [0, 1, 2] rfl) hKK (va_recv hK hP (ci := 1) (q0 := 0) rfl rfl) rfl hl.1 rfl (Nat.le_of_ble_eq_true rfl) dX1_loadedNodes_15 ⟨Nat.le_of_ble_eq_true rfl, Nat.le_of_ble_eq_true rfl⟩ ?_
  refine lv_iand hx hb dX1_loadedNodes_18 ?_
  rw [hQQ]
  exact W.iret (v := v1 &&& v3) hx hb hr (fun t ht hW => ⟨_, rfl, Option.some.inj h, ht⟩) (fun q hq => absurd hq List.not_mem_nil) dX1_loadedNodes_19

def fX1_areEndsConnected (N : Nat) (nc : Int32) (sc : Int32) (br : Int32) (so : Int32) (lo : Int32) (ends : Nat → Int32) (tcl : Int32) (tea : Int32) (ton : Int32) (p0 : Int32) : Option ((Int32)) :=
  gin p0 24 (bd1 (fX1_connectedWith N nc sc br so lo ends tcl tea ton ((ends p0.toNatClampNeg) &&& (-(ends p0.toNatClampNeg)))) (fun v2 => (if (v2 &&& (ends p0.toNatClampNeg)) = (ends p0.toNatClampNeg) then some 1 else some 0)))
set_option maxRecDepth 100000 in
theorem inX1_areEndsConnected_X1 : ∀ w ∈ wsX10, w ∈ wsX1_areEndsConnected := by decide +kernel
set_option maxRecDepth 100000 in
theorem lkX1_areEndsConnected_0 : (.fieldLink RX1 9 "Switchlog$Net" "ends" "[I" : Cond) ∈ wsX1_areEndsConnected := by decide +kernel
abbrev rmX1_areEndsConnected : Room := { frames := 1, cells := 0, slots := 0, locals := 27 }
set_option maxHeartbeats 4000000 in
set_option maxRecDepth 100000 in
theorem kX1_areEndsConnected (l : Launch) (D : va_G) (cI cZ cL : ClassId) (h_net h_ends h_st : Nat) (nc : Int32) (sc : Int32) (br : Int32) (so : Int32) (lo : Int32) (ends : Nat → Int32) (tcl : Int32) (tea : Int32) (ton : Int32) (p0 : Int32) (N : Nat) {r : Int32} (h : fX1_areEndsConnected N nc sc br so lo ends tcl tea ton p0 = some r) : Met l yX1_areEndsConnected wsX1_areEndsConnected rmX1_areEndsConnected (PR D cI cZ cL [.ref h_net, .int p0, .ref h_st] [(h_net, .inr (1, [.ref h_ends, .int nc, .int sc, .int br, .int so, .int lo])), (h_ends, .inl (cI, 24, .inl ends)), (h_st, .inr (3, [.int tcl, .int tea, .int ton]))]) (vp_Si (fun z => z = r)) 0 0 (fun _ => False) := by
  refine Met.ofW (cc := cX1_areEndsConnected) (maxL := 5) (ret := (some .boolean)) (by decide) rfl ?_
  intro p e s m args below meth c s₁ B hml hv
  obtain ⟨rfl, hP, hKK⟩ := hv
  have hK := hKK.1
  have hx := B.exec
  have hb := B.bytes
  have hr := B.returns
  have hts := atoms_spec (ws := wsX1_areEndsConnected) B.pre
  have hown : s.vm.findClass RX1 = some m.cls := findClass_of_methodNamed B.named
  have hlocks := B.notSynchronized
  have hl := lv_entry ([.ref h_net, .int p0, .ref h_st]) (n := 5) (Nat.le_of_ble_eq_true rfl)
  rw [lg_entry_eq]
  generalize (lg_sl ([.ref h_net, .int p0, .ref h_st]) ++ List.replicate (5 - (lg_sl ([.ref h_net, .int p0, .ref h_st])).length) Slot.unset).toArray = ls at hl ⊢
  have hl : lv_has ls 5 [(0, .ref h_net), (1, .int p0), (2, .ref h_st)] := hl
  obtain ⟨QQ, hQQ⟩ : ∃ Z, Z = MQ below (vp_Si (fun z => z = r)) ([.ref h_net, .int p0, .ref h_st] : List Value).toArray s 0 0 (fun _ => False) := ⟨_, rfl⟩
  rw [← hQQ]
  unfold fX1_areEndsConnected at h
  refine lv_aload_n hx hb dX1_areEndsConnected_0 rfl (lv_at hl 0 rfl) ?_
  refine va_get (D := D) (ci := 1) (v := .ref h_ends) (C := RX1) (T := TX1) (N := 6) hx hb hts inX1_areEndsConnected_X1 hown hK hP 0 rfl rfl 0 (by decide) (hts _ lkX1_areEndsConnected_0) (fun _ h9 => h9) rfl dX1_areEndsConnected_1 ?_
  refine lv_iload_n hx hb dX1_areEndsConnected_4 rfl (lv_at hl 1 rfl) ?_
  obtain ⟨hi1, h⟩ := gin_e h
  refine va_iald hx hb hK hP 1 0 rfl rfl hi1 dX1_areEndsConnected_5 ?_
  refine lv_istore_n (lv' := [(3, .int (ends p0.toNatClampNeg)), (0, .ref h_net), (1, .int p0), (2, .ref h_st)]) hx hb dX1_areEndsConnected_6 rfl hl (by decide) rfl (fun ls hl => ?_)
  refine lv_iload_n hx hb dX1_areEndsConnected_7 rfl (lv_at hl 0 rfl) ?_
  refine lv_iload_n hx hb dX1_areEndsConnected_8 rfl (lv_at hl 0 rfl) ?_
  refine lv_ineg hx hb dX1_areEndsConnected_9 ?_
  refine lv_iand hx hb dX1_areEndsConnected_10 ?_
  refine lv_istore (lv' := [(4, .int ((ends p0.toNatClampNeg) &&& (-(ends p0.toNatClampNeg)))), (3, .int (ends p0.toNatClampNeg)), (0, .ref h_net), (1, .int p0), (2, .ref h_st)]) hx hb dX1_areEndsConnected_11 hl (by decide) rfl (fun ls hl => ?_)
  refine lv_aload_n hx hb dX1_areEndsConnected_13 rfl (lv_at hl 2 rfl) ?_
  refine lv_iload hx hb dX1_areEndsConnected_14 (lv_at hl 0 rfl) ?_
  refine lv_aload_n hx hb dX1_areEndsConnected_16 rfl (lv_at hl 4 rfl) ?_
  obtain ⟨v2, hq3, h⟩ := bd1_e h
  refine zz_cV (As := [.int ((ends p0.toNatClampNeg) &&& (-(ends p0.toNatClampNeg))), .ref h_st]) ⟨hx, hb, hml, hown, hts⟩ (kX1_connectedWith l D cI cZ cL h_net h_ends h_st nc sc br so lo ends tcl tea ton ((ends p0.toNatClampNeg) &&& (-(ends p0.toNatClampNeg))) N hq3) (cwV 2 hts gX1_areEndsConnected_X1_connectedWith rfl rfl rfl (by decide +kernel) ⟨Nat.le_of_ble_eq_true rfl, Nat.le_of_ble_eq_true rfl⟩) (hP.sub (ws' := [(h_net, .inr (1, [.ref h_ends, .int nc, .int sc, .int br, .int so, .int lo])), (h_ends, .inl (cI, 24, .inl ends)), (h_st, .inr (3, [.int tcl, .int tea, .int ton]))]) [0, 1, 2] rfl) hKK (va_recv hK hP (ci := 1) (q0 := 0) rfl rfl) rfl hl.1 rfl (Nat.le_of_ble_eq_true rfl) dX1_areEndsConnected_17 ⟨Nat.le_of_ble_eq_true rfl, Nat.le_of_ble_eq_true rfl⟩ ?_
  refine lv_iload_n hx hb dX1_areEndsConnected_20 rfl (lv_at hl 1 rfl) ?_
  refine lv_iand hx hb dX1_areEndsConnected_21 ?_
  refine lv_iload_n hx hb dX1_areEndsConnected_22 rfl (lv_at hl 1 rfl) ?_
  refine lv_icmp_ne (tgt := 30) hx hb dX1_areEndsConnected_23 (by decide) (fun c4 => ?_) (fun c4 => ?_)
  · have h := it_f h c4
    refine lv_iconst (v := 0) hx hb dX1_areEndsConnected_30 (by decide) ?_
    rw [hQQ]
    exact W.zret (v := 0) hx hb hr (by decide) (fun t ht hW => ⟨_, rfl, Option.some.inj h, ht⟩) (fun q hq => absurd hq List.not_mem_nil) dX1_areEndsConnected_31
  · have h := it_t h c4
    refine lv_iconst (v := 1) hx hb dX1_areEndsConnected_26 (by decide) ?_
    refine lv_goto (tgt := 31) hx hb dX1_areEndsConnected_27 (by decide) ?_
    rw [hQQ]
    exact W.zret (v := 1) hx hb hr (by decide) (fun t ht hW => ⟨_, rfl, Option.some.inj h, ht⟩) (fun q hq => absurd hq List.not_mem_nil) dX1_areEndsConnected_31

def fX1_countParts (N : Nat) (nc : Int32) (sc : Int32) (br : Int32) (so : Int32) (lo : Int32) (ends : Nat → Int32) (tcl : Int32) (tea : Int32) (ton : Int32) : Option ((Int32)) :=
  bd1 (fX1_allNodes N nc sc br so lo) (fun v1 => it3 (fun g10_6 (x3 : Int32) (x4 : Int32) (x5 : Int32) => (if nc ≤ x3 then some x4 else (if ((x5 >>> (x3 &&& 31)) &&& 1) = 0 then g10_6 (x3 + 1) x4 x5 else bd1 (fX1_connectedWith N nc sc br so lo ends tcl tea ton ((1 : Int32) <<< (x3 &&& 31))) (fun v10 => g10_6 (x3 + 1) (x4 + 1) (x5 &&& (v10 ^^^ (-1))))))) N 0 0 v1)
set_option maxRecDepth 100000 in
theorem inX1_countParts_X1 : ∀ w ∈ wsX10, w ∈ wsX1_countParts := by decide +kernel
set_option maxRecDepth 100000 in
theorem lkX1_countParts_0 : (.fieldLink RX1 15 "Switchlog$Net" "nodeCount" "I" : Cond) ∈ wsX1_countParts := by decide +kernel
abbrev rmX1_countParts : Room := { frames := 1, cells := 0, slots := 0, locals := 27 }
set_option maxHeartbeats 4000000 in
set_option maxRecDepth 100000 in
theorem kX1_countParts (l : Launch) (D : va_G) (cI cZ cL : ClassId) (h_net h_ends h_st : Nat) (nc : Int32) (sc : Int32) (br : Int32) (so : Int32) (lo : Int32) (ends : Nat → Int32) (tcl : Int32) (tea : Int32) (ton : Int32)  (N : Nat) {r : Int32} (h : fX1_countParts N nc sc br so lo ends tcl tea ton  = some r) : Met l yX1_countParts wsX1_countParts rmX1_countParts (PR D cI cZ cL [.ref h_net, .ref h_st] [(h_net, .inr (1, [.ref h_ends, .int nc, .int sc, .int br, .int so, .int lo])), (h_ends, .inl (cI, 24, .inl ends)), (h_st, .inr (3, [.int tcl, .int tea, .int ton]))]) (vp_Si (fun z => z = r)) 0 0 (fun _ => False) := by
  refine Met.ofW (cc := cX1_countParts) (maxL := 5) (ret := (some .int)) (by decide) rfl ?_
  intro p e s m args below meth c s₁ B hml hv
  obtain ⟨rfl, hP, hKK⟩ := hv
  have hK := hKK.1
  have hx := B.exec
  have hb := B.bytes
  have hr := B.returns
  have hts := atoms_spec (ws := wsX1_countParts) B.pre
  have hown : s.vm.findClass RX1 = some m.cls := findClass_of_methodNamed B.named
  have hlocks := B.notSynchronized
  have hl := lv_entry ([.ref h_net, .ref h_st]) (n := 5) (Nat.le_of_ble_eq_true rfl)
  rw [lg_entry_eq]
  generalize (lg_sl ([.ref h_net, .ref h_st]) ++ List.replicate (5 - (lg_sl ([.ref h_net, .ref h_st])).length) Slot.unset).toArray = ls at hl ⊢
  have hl : lv_has ls 5 [(0, .ref h_net), (1, .ref h_st)] := hl
  obtain ⟨QQ, hQQ⟩ : ∃ Z, Z = MQ below (vp_Si (fun z => z = r)) ([.ref h_net, .ref h_st] : List Value).toArray s 0 0 (fun _ => False) := ⟨_, rfl⟩
  rw [← hQQ]
  unfold fX1_countParts at h
  refine lv_aload_n hx hb dX1_countParts_0 rfl (lv_at hl 0 rfl) ?_
  obtain ⟨v1, hq2, h⟩ := bd1_e h
  refine zz_cV (As := []) ⟨hx, hb, hml, hown, hts⟩ (kX1_allNodes l D cI cZ cL h_net h_ends nc sc br so lo N hq2) (cwV 0 hts gX1_countParts_X1_allNodes rfl rfl rfl (by decide +kernel) ⟨Nat.le_of_ble_eq_true rfl, Nat.le_of_ble_eq_true rfl⟩) (hP.sub (ws' := [(h_net, .inr (1, [.ref h_ends, .int nc, .int sc, .int br, .int so, .int lo]))]) [0] rfl) hKK (va_recv hK hP (ci := 1) (q0 := 0) rfl rfl) rfl hl.1 rfl (Nat.le_of_ble_eq_true rfl) dX1_countParts_1 ⟨Nat.le_of_ble_eq_true rfl, Nat.le_of_ble_eq_true rfl⟩ ?_
  refine lv_istore_n (lv' := [(2, .int v1), (0, .ref h_net), (1, .ref h_st)]) hx hb dX1_countParts_4 rfl hl (by decide) rfl (fun ls hl => ?_)
  refine lv_iconst (v := 0) hx hb dX1_countParts_5 (by decide) ?_
  refine lv_istore_n (lv' := [(3, .int 0), (2, .int v1), (0, .ref h_net), (1, .ref h_st)]) hx hb dX1_countParts_6 rfl hl (by decide) rfl (fun ls hl => ?_)
  refine lv_iconst (v := 0) hx hb dX1_countParts_7 (by decide) ?_
  refine lv_istore (lv' := [(4, .int 0), (3, .int 0), (2, .int v1), (0, .ref h_net), (1, .ref h_st)]) hx hb dX1_countParts_8 hl (by decide) rfl (fun ls hl => ?_)
  refine it3_e (fun (x3 : Int32) (x4 : Int32) (x5 : Int32) => ∀ ls : Array Slot, lv_has ls 5 [(4, .int x3), (3, .int x4), (2, .int x5), (0, .ref h_net), (1, .ref h_st)] → W p l e (headSpec wsX1_countParts rmX1_countParts).room s m (([.ref h_net, .ref h_st] : List Value).toArray) below meth c s.heap [] 0 0 QQ (F0 m 10 ls [])) (fun g10_6 hg10_7 x3 x4 x5 h ls hl => ?_) N 0 0 v1 h ls (lv_sub hl [0, 1, 2, 3, 4] rfl)
  refine lv_iload hx hb dX1_countParts_10 (lv_at hl 0 rfl) ?_
  refine lv_aload_n hx hb dX1_countParts_12 rfl (lv_at hl 3 rfl) ?_
  refine va_get (D := D) (ci := 1) (v := .int nc) (C := RX1) (T := TX1) (N := 6) hx hb hts inX1_countParts_X1 hown hK hP 0 rfl rfl 1 (by decide) (hts _ lkX1_countParts_0) (fun _ h9 => h9) rfl dX1_countParts_13 ?_
  refine lv_icmp_ge (tgt := 51) hx hb dX1_countParts_16 (by decide) (fun c8 => ?_) (fun c8 => ?_)
  · have h := it_t h c8
    refine lv_iload_n hx hb dX1_countParts_51 rfl (lv_at hl 1 rfl) ?_
    rw [hQQ]
    exact W.iret (v := x4) hx hb hr (fun t ht hW => ⟨_, rfl, Option.some.inj h, ht⟩) (fun q hq => absurd hq List.not_mem_nil) dX1_countParts_52
  · have h := it_f h c8
    refine lv_iload_n hx hb dX1_countParts_19 rfl (lv_at hl 2 rfl) ?_
    refine lv_iload hx hb dX1_countParts_20 (lv_at hl 0 rfl) ?_
    refine lv_ishr hx hb dX1_countParts_22 ?_
    refine lv_iconst (v := 1) hx hb dX1_countParts_23 (by decide) ?_
    refine lv_iand hx hb dX1_countParts_24 ?_
    refine lv_if_eq (tgt := 45) hx hb dX1_countParts_25 (by decide) (fun c9 => ?_) (fun c9 => ?_)
    · have h := it_t h c9
      refine lv_iinc (v := x3 + 1) (lv' := [(4, .int (x3 + 1)), (3, .int x4), (2, .int x5), (0, .ref h_net), (1, .ref h_st)]) hx hb dX1_countParts_45 hl (k := 0) rfl rfl (by decide) rfl (fun ls hl => ?_)
      refine lv_goto (tgt := 10) hx hb dX1_countParts_48 (by decide) ?_
      exact hg10_7 (x3 + 1) x4 x5 h ls (lv_sub hl [0, 1, 2, 3, 4] rfl)
    · have h := it_f h c9
      refine lv_iload_n hx hb dX1_countParts_28 rfl (lv_at hl 2 rfl) ?_
      refine lv_aload_n hx hb dX1_countParts_29 rfl (lv_at hl 3 rfl) ?_
      refine lv_iconst (v := 1) hx hb dX1_countParts_30 (by decide) ?_
      refine lv_iload hx hb dX1_countParts_31 (lv_at hl 0 rfl) ?_
      refine lv_ishl hx hb dX1_countParts_33 ?_
      refine lv_aload_n hx hb dX1_countParts_34 rfl (lv_at hl 4 rfl) ?_
      obtain ⟨v10, hq11, h⟩ := bd1_e h
      refine zz_cV (As := [.int ((1 : Int32) <<< (x3 &&& 31)), .ref h_st]) ⟨hx, hb, hml, hown, hts⟩ (kX1_connectedWith l D cI cZ cL h_net h_ends h_st nc sc br so lo ends tcl tea ton ((1 : Int32) <<< (x3 &&& 31)) N hq11) (cwV 2 hts gX1_countParts_X1_connectedWith rfl rfl rfl (by decide +kernel) ⟨Nat.le_of_ble_eq_true rfl, Nat.le_of_ble_eq_true rfl⟩) (hP.sub (ws' := [(h_net, .inr (1, [.ref h_ends, .int nc, .int sc, .int br, .int so, .int lo])), (h_ends, .inl (cI, 24, .inl ends)), (h_st, .inr (3, [.int tcl, .int tea, .int ton]))]) [0, 1, 2] rfl) hKK (va_recv hK hP (ci := 1) (q0 := 0) rfl rfl) rfl hl.1 rfl (Nat.le_of_ble_eq_true rfl) dX1_countParts_35 ⟨Nat.le_of_ble_eq_true rfl, Nat.le_of_ble_eq_true rfl⟩ ?_
      refine lv_iconst (v := (-1)) hx hb dX1_countParts_38 (by decide) ?_
      refine lv_ixor hx hb dX1_countParts_39 ?_
      refine lv_iand hx hb dX1_countParts_40 ?_
      refine lv_istore_n (lv' := [(2, .int (x5 &&& (v10 ^^^ (-1)))), (4, .int x3), (3, .int x4), (0, .ref h_net), (1, .ref h_st)]) hx hb dX1_countParts_41 rfl hl (by decide) rfl (fun ls hl => ?_)
      refine lv_iinc (v := x4 + 1) (lv' := [(3, .int (x4 + 1)), (2, .int (x5 &&& (v10 ^^^ (-1)))), (4, .int x3), (0, .ref h_net), (1, .ref h_st)]) hx hb dX1_countParts_42 hl (k := 2) rfl rfl (by decide) rfl (fun ls hl => ?_)
      refine lv_iinc (v := x3 + 1) (lv' := [(4, .int (x3 + 1)), (3, .int (x4 + 1)), (2, .int (x5 &&& (v10 ^^^ (-1)))), (0, .ref h_net), (1, .ref h_st)]) hx hb dX1_countParts_45 hl (k := 2) rfl rfl (by decide) rfl (fun ls hl => ?_)
      refine lv_goto (tgt := 10) hx hb dX1_countParts_48 (by decide) ?_
      exact hg10_7 (x3 + 1) (x4 + 1) (x5 &&& (v10 ^^^ (-1))) h ls (lv_sub hl [0, 1, 2, 3, 4] rfl)

def fX1_withNeighbours (N : Nat) (nc : Int32) (sc : Int32) (br : Int32) (so : Int32) (lo : Int32) (ends : Nat → Int32) (p0 : Int32) : Option ((Int32)) :=
  it2 (fun g4_3 (x1 : Int32) (x2 : Int32) => (if sc ≤ x1 then some x2 else gin x1 24 ((if ((ends x1.toNatClampNeg) &&& p0) = 0 then g4_3 (x1 + 1) (x2 ||| 0) else gin x1 24 (g4_3 (x1 + 1) (x2 ||| (ends x1.toNatClampNeg))))))) N 0 p0
set_option maxRecDepth 100000 in
theorem inX1_withNeighbours_X1 : ∀ w ∈ wsX10, w ∈ wsX1_withNeighbours := by decide +kernel
set_option maxRecDepth 100000 in
theorem lkX1_withNeighbours_0 : (.fieldLink RX1 19 "Switchlog$Net" "switchCount" "I" : Cond) ∈ wsX1_withNeighbours := by decide +kernel
set_option maxRecDepth 100000 in
theorem lkX1_withNeighbours_1 : (.fieldLink RX1 9 "Switchlog$Net" "ends" "[I" : Cond) ∈ wsX1_withNeighbours := by decide +kernel
abbrev rmX1_withNeighbours : Room := { frames := 0, cells := 0, slots := 0, locals := 0 }
set_option maxHeartbeats 4000000 in
set_option maxRecDepth 100000 in
theorem kX1_withNeighbours (l : Launch) (D : va_G) (cI cZ cL : ClassId) (h_net h_ends : Nat) (nc : Int32) (sc : Int32) (br : Int32) (so : Int32) (lo : Int32) (ends : Nat → Int32) (p0 : Int32) (N : Nat) {r : Int32} (h : fX1_withNeighbours N nc sc br so lo ends p0 = some r) : Met l yX1_withNeighbours wsX1_withNeighbours rmX1_withNeighbours (PR D cI cZ cL [.ref h_net, .int p0] [(h_net, .inr (1, [.ref h_ends, .int nc, .int sc, .int br, .int so, .int lo])), (h_ends, .inl (cI, 24, .inl ends))]) (vp_Si (fun z => z = r)) 0 0 (fun _ => False) := by
  refine Met.ofW (cc := cX1_withNeighbours) (maxL := 4) (ret := (some .int)) (by decide) rfl ?_
  intro p e s m args below meth c s₁ B hml hv
  obtain ⟨rfl, hP, hKK⟩ := hv
  have hK := hKK.1
  have hx := B.exec
  have hb := B.bytes
  have hr := B.returns
  have hts := atoms_spec (ws := wsX1_withNeighbours) B.pre
  have hown : s.vm.findClass RX1 = some m.cls := findClass_of_methodNamed B.named
  have hlocks := B.notSynchronized
  have hl := lv_entry ([.ref h_net, .int p0]) (n := 4) (Nat.le_of_ble_eq_true rfl)
  rw [lg_entry_eq]
  generalize (lg_sl ([.ref h_net, .int p0]) ++ List.replicate (4 - (lg_sl ([.ref h_net, .int p0])).length) Slot.unset).toArray = ls at hl ⊢
  have hl : lv_has ls 4 [(0, .ref h_net), (1, .int p0)] := hl
  obtain ⟨QQ, hQQ⟩ : ∃ Z, Z = MQ below (vp_Si (fun z => z = r)) ([.ref h_net, .int p0] : List Value).toArray s 0 0 (fun _ => False) := ⟨_, rfl⟩
  rw [← hQQ]
  unfold fX1_withNeighbours at h
  refine lv_iload_n hx hb dX1_withNeighbours_0 rfl (lv_at hl 1 rfl) ?_
  refine lv_istore_n (lv' := [(2, .int p0), (0, .ref h_net), (1, .int p0)]) hx hb dX1_withNeighbours_1 rfl hl (by decide) rfl (fun ls hl => ?_)
  refine lv_iconst (v := 0) hx hb dX1_withNeighbours_2 (by decide) ?_
  refine lv_istore_n (lv' := [(3, .int 0), (2, .int p0), (0, .ref h_net), (1, .int p0)]) hx hb dX1_withNeighbours_3 rfl hl (by decide) rfl (fun ls hl => ?_)
  refine it2_e (fun (x1 : Int32) (x2 : Int32) => ∀ ls : Array Slot, lv_has ls 4 [(3, .int x1), (2, .int x2), (0, .ref h_net), (1, .int p0)] → W p l e (headSpec wsX1_withNeighbours rmX1_withNeighbours).room s m (([.ref h_net, .int p0] : List Value).toArray) below meth c s.heap [] 0 0 QQ (F0 m 4 ls [])) (fun g4_3 hg4_4 x1 x2 h ls hl => ?_) N 0 p0 h ls (lv_sub hl [0, 1, 2, 3] rfl)
  refine lv_iload_n hx hb dX1_withNeighbours_4 rfl (lv_at hl 0 rfl) ?_
  refine lv_aload_n hx hb dX1_withNeighbours_5 rfl (lv_at hl 2 rfl) ?_
  refine va_get (D := D) (ci := 1) (v := .int sc) (C := RX1) (T := TX1) (N := 6) hx hb hts inX1_withNeighbours_X1 hown hK hP 0 rfl rfl 2 (by decide) (hts _ lkX1_withNeighbours_0) (fun _ h9 => h9) rfl dX1_withNeighbours_6 ?_
  refine lv_icmp_ge (tgt := 42) hx hb dX1_withNeighbours_9 (by decide) (fun c5 => ?_) (fun c5 => ?_)
  · have h := it_t h c5
    refine lv_iload_n hx hb dX1_withNeighbours_42 rfl (lv_at hl 1 rfl) ?_
    rw [hQQ]
    exact W.iret (v := x2) hx hb hr (fun t ht hW => ⟨_, rfl, Option.some.inj h, ht⟩) (fun q hq => absurd hq List.not_mem_nil) dX1_withNeighbours_43
  · have h := it_f h c5
    refine lv_iload_n hx hb dX1_withNeighbours_12 rfl (lv_at hl 1 rfl) ?_
    refine lv_aload_n hx hb dX1_withNeighbours_13 rfl (lv_at hl 2 rfl) ?_
    refine va_get (D := D) (ci := 1) (v := .ref h_ends) (C := RX1) (T := TX1) (N := 6) hx hb hts inX1_withNeighbours_X1 hown hK hP 0 rfl rfl 0 (by decide) (hts _ lkX1_withNeighbours_1) (fun _ h9 => h9) rfl dX1_withNeighbours_14 ?_
    refine lv_iload_n hx hb dX1_withNeighbours_17 rfl (lv_at hl 0 rfl) ?_
    obtain ⟨hi6, h⟩ := gin_e h
    refine va_iald hx hb hK hP 1 0 rfl rfl hi6 dX1_withNeighbours_18 ?_
    refine lv_iload_n hx hb dX1_withNeighbours_19 rfl (lv_at hl 3 rfl) ?_
    refine lv_iand hx hb dX1_withNeighbours_20 ?_
    refine lv_if_eq (tgt := 33) hx hb dX1_withNeighbours_21 (by decide) (fun c7 => ?_) (fun c7 => ?_)
    · have h := it_t h c7
      refine lv_iconst (v := 0) hx hb dX1_withNeighbours_33 (by decide) ?_
      refine lv_ior hx hb dX1_withNeighbours_34 ?_
      refine lv_istore_n (lv' := [(2, .int (x2 ||| 0)), (3, .int x1), (0, .ref h_net), (1, .int p0)]) hx hb dX1_withNeighbours_35 rfl hl (by decide) rfl (fun ls hl => ?_)
      refine lv_iinc (v := x1 + 1) (lv' := [(3, .int (x1 + 1)), (2, .int (x2 ||| 0)), (0, .ref h_net), (1, .int p0)]) hx hb dX1_withNeighbours_36 hl (k := 1) rfl rfl (by decide) rfl (fun ls hl => ?_)
      refine lv_goto (tgt := 4) hx hb dX1_withNeighbours_39 (by decide) ?_
      exact hg4_4 (x1 + 1) (x2 ||| 0) h ls (lv_sub hl [0, 1, 2, 3] rfl)
    · have h := it_f h c7
      refine lv_aload_n hx hb dX1_withNeighbours_24 rfl (lv_at hl 2 rfl) ?_
      refine va_get (D := D) (ci := 1) (v := .ref h_ends) (C := RX1) (T := TX1) (N := 6) hx hb hts inX1_withNeighbours_X1 hown hK hP 0 rfl rfl 0 (by decide) (hts _ lkX1_withNeighbours_1) (fun _ h9 => h9) rfl dX1_withNeighbours_25 ?_
      refine lv_iload_n hx hb dX1_withNeighbours_28 rfl (lv_at hl 0 rfl) ?_
      obtain ⟨hi8, h⟩ := gin_e h
      refine va_iald hx hb hK hP 1 0 rfl rfl hi8 dX1_withNeighbours_29 ?_
      refine lv_goto (tgt := 34) hx hb dX1_withNeighbours_30 (by decide) ?_
      refine lv_ior hx hb dX1_withNeighbours_34 ?_
      refine lv_istore_n (lv' := [(2, .int (x2 ||| (ends x1.toNatClampNeg))), (3, .int x1), (0, .ref h_net), (1, .int p0)]) hx hb dX1_withNeighbours_35 rfl hl (by decide) rfl (fun ls hl => ?_)
      refine lv_iinc (v := x1 + 1) (lv' := [(3, .int (x1 + 1)), (2, .int (x2 ||| (ends x1.toNatClampNeg))), (0, .ref h_net), (1, .int p0)]) hx hb dX1_withNeighbours_36 hl (k := 1) rfl rfl (by decide) rfl (fun ls hl => ?_)
      refine lv_goto (tgt := 4) hx hb dX1_withNeighbours_39 (by decide) ?_
      exact hg4_4 (x1 + 1) (x2 ||| (ends x1.toNatClampNeg)) h ls (lv_sub hl [0, 1, 2, 3] rfl)

def fX2_given (N : Nat) (pg : Int32) : Option ((Int32)) :=
  some pg
set_option maxRecDepth 100000 in
theorem inX2_given_X2 : ∀ w ∈ wsX20, w ∈ wsX2_given := by decide +kernel
set_option maxRecDepth 100000 in
theorem lkX2_given_0 : (.fieldLink RX2 15 "Switchlog$Permits" "given" "I" : Cond) ∈ wsX2_given := by decide +kernel
abbrev rmX2_given : Room := { frames := 0, cells := 0, slots := 0, locals := 0 }
set_option maxHeartbeats 4000000 in
set_option maxRecDepth 100000 in
theorem kX2_given (l : Launch) (D : va_G) (cI cZ cL : ClassId) (h_per a_hol : Nat) (pg : Int32)  (N : Nat) {r : Int32} (h : fX2_given N pg  = some r) : Met l yX2_given wsX2_given rmX2_given (PR D cI cZ cL [.ref h_per] [(h_per, .inr (2, [.ref a_hol, .int pg]))]) (vp_Si (fun z => z = r)) 0 0 (fun _ => False) := by
  refine Met.ofW (cc := cX2_given) (maxL := 1) (ret := (some .int)) (by decide) rfl ?_
  intro p e s m args below meth c s₁ B hml hv
  obtain ⟨rfl, hP, hKK⟩ := hv
  have hK := hKK.1
  have hx := B.exec
  have hb := B.bytes
  have hr := B.returns
  have hts := atoms_spec (ws := wsX2_given) B.pre
  have hown : s.vm.findClass RX2 = some m.cls := findClass_of_methodNamed B.named
  have hlocks := B.notSynchronized
  have hl := lv_entry ([.ref h_per]) (n := 1) (Nat.le_of_ble_eq_true rfl)
  rw [lg_entry_eq]
  generalize (lg_sl ([.ref h_per]) ++ List.replicate (1 - (lg_sl ([.ref h_per])).length) Slot.unset).toArray = ls at hl ⊢
  have hl : lv_has ls 1 [(0, .ref h_per)] := hl
  obtain ⟨QQ, hQQ⟩ : ∃ Z, Z = MQ below (vp_Si (fun z => z = r)) ([.ref h_per] : List Value).toArray s 0 0 (fun _ => False) := ⟨_, rfl⟩
  rw [← hQQ]
  unfold fX2_given at h
  refine lv_aload_n hx hb dX2_given_0 rfl (lv_at hl 0 rfl) ?_
  refine va_get (D := D) (ci := 2) (v := .int pg) (C := RX2) (T := TX2) (N := 2) hx hb hts inX2_given_X2 hown hK hP 0 rfl rfl 1 (by decide) (hts _ lkX2_given_0) (fun _ h9 => h9) rfl dX2_given_1 ?_
  rw [hQQ]
  exact W.iret (v := pg) hx hb hr (fun t ht hW => ⟨_, rfl, Option.some.inj h, ht⟩) (fun q hq => absurd hq List.not_mem_nil) dX2_given_4

def fX2_isHeld (N : Nat) (pg : Int32) (hol : Nat → Int32) (p0 : Int32) : Option ((Int32)) :=
  gin p0 10 ((if (hol p0.toNatClampNeg) = 0 then some 0 else some 1))
set_option maxRecDepth 100000 in
theorem inX2_isHeld_X2 : ∀ w ∈ wsX20, w ∈ wsX2_isHeld := by decide +kernel
set_option maxRecDepth 100000 in
theorem lkX2_isHeld_0 : (.fieldLink RX2 9 "Switchlog$Permits" "holds" "[I" : Cond) ∈ wsX2_isHeld := by decide +kernel
abbrev rmX2_isHeld : Room := { frames := 0, cells := 0, slots := 0, locals := 0 }
set_option maxHeartbeats 4000000 in
set_option maxRecDepth 100000 in
theorem kX2_isHeld (l : Launch) (D : va_G) (cI cZ cL : ClassId) (h_per h_hol : Nat) (pg : Int32) (hol : Nat → Int32) (p0 : Int32) (N : Nat) {r : Int32} (h : fX2_isHeld N pg hol p0 = some r) : Met l yX2_isHeld wsX2_isHeld rmX2_isHeld (PR D cI cZ cL [.ref h_per, .int p0] [(h_per, .inr (2, [.ref h_hol, .int pg])), (h_hol, .inl (cI, 10, .inl hol))]) (vp_Si (fun z => z = r)) 0 0 (fun _ => False) := by
  refine Met.ofW (cc := cX2_isHeld) (maxL := 2) (ret := (some .boolean)) (by decide) rfl ?_
  intro p e s m args below meth c s₁ B hml hv
  obtain ⟨rfl, hP, hKK⟩ := hv
  have hK := hKK.1
  have hx := B.exec
  have hb := B.bytes
  have hr := B.returns
  have hts := atoms_spec (ws := wsX2_isHeld) B.pre
  have hown : s.vm.findClass RX2 = some m.cls := findClass_of_methodNamed B.named
  have hlocks := B.notSynchronized
  have hl := lv_entry ([.ref h_per, .int p0]) (n := 2) (Nat.le_of_ble_eq_true rfl)
  rw [lg_entry_eq]
  generalize (lg_sl ([.ref h_per, .int p0]) ++ List.replicate (2 - (lg_sl ([.ref h_per, .int p0])).length) Slot.unset).toArray = ls at hl ⊢
  have hl : lv_has ls 2 [(0, .ref h_per), (1, .int p0)] := hl
  obtain ⟨QQ, hQQ⟩ : ∃ Z, Z = MQ below (vp_Si (fun z => z = r)) ([.ref h_per, .int p0] : List Value).toArray s 0 0 (fun _ => False) := ⟨_, rfl⟩
  rw [← hQQ]
  unfold fX2_isHeld at h
  refine lv_aload_n hx hb dX2_isHeld_0 rfl (lv_at hl 0 rfl) ?_
  refine va_get (D := D) (ci := 2) (v := .ref h_hol) (C := RX2) (T := TX2) (N := 2) hx hb hts inX2_isHeld_X2 hown hK hP 0 rfl rfl 0 (by decide) (hts _ lkX2_isHeld_0) (fun _ h9 => h9) rfl dX2_isHeld_1 ?_
  refine lv_iload_n hx hb dX2_isHeld_4 rfl (lv_at hl 1 rfl) ?_
  obtain ⟨hi1, h⟩ := gin_e h
  refine va_iald hx hb hK hP 1 0 rfl rfl hi1 dX2_isHeld_5 ?_
  refine lv_if_eq (tgt := 13) hx hb dX2_isHeld_6 (by decide) (fun c2 => ?_) (fun c2 => ?_)
  · have h := it_t h c2
    refine lv_iconst (v := 0) hx hb dX2_isHeld_13 (by decide) ?_
    rw [hQQ]
    exact W.zret (v := 0) hx hb hr (by decide) (fun t ht hW => ⟨_, rfl, Option.some.inj h, ht⟩) (fun q hq => absurd hq List.not_mem_nil) dX2_isHeld_14
  · have h := it_f h c2
    refine lv_iconst (v := 1) hx hb dX2_isHeld_9 (by decide) ?_
    refine lv_goto (tgt := 14) hx hb dX2_isHeld_10 (by decide) ?_
    rw [hQQ]
    exact W.zret (v := 1) hx hb hr (by decide) (fun t ht hW => ⟨_, rfl, Option.some.inj h, ht⟩) (fun q hq => absurd hq List.not_mem_nil) dX2_isHeld_14

def fX2_countHeld (N : Nat) (pg : Int32) (hol : Nat → Int32) : Option ((Int32)) :=
  it2 (fun g4_3 (x1 : Int32) (x2 : Int32) => (if pg ≤ x1 then some x2 else bd1 (fX2_isHeld N pg hol x1) (fun v6 => (if v6 = 0 then g4_3 (x1 + 1) (x2 + 0) else g4_3 (x1 + 1) (x2 + 1))))) N 0 0
set_option maxRecDepth 100000 in
theorem inX2_countHeld_X2 : ∀ w ∈ wsX20, w ∈ wsX2_countHeld := by decide +kernel
set_option maxRecDepth 100000 in
theorem lkX2_countHeld_0 : (.fieldLink RX2 15 "Switchlog$Permits" "given" "I" : Cond) ∈ wsX2_countHeld := by decide +kernel
abbrev rmX2_countHeld : Room := { frames := 1, cells := 0, slots := 0, locals := 21 }
set_option maxHeartbeats 4000000 in
set_option maxRecDepth 100000 in
theorem kX2_countHeld (l : Launch) (D : va_G) (cI cZ cL : ClassId) (h_per h_hol : Nat) (pg : Int32) (hol : Nat → Int32)  (N : Nat) {r : Int32} (h : fX2_countHeld N pg hol  = some r) : Met l yX2_countHeld wsX2_countHeld rmX2_countHeld (PR D cI cZ cL [.ref h_per] [(h_per, .inr (2, [.ref h_hol, .int pg])), (h_hol, .inl (cI, 10, .inl hol))]) (vp_Si (fun z => z = r)) 0 0 (fun _ => False) := by
  refine Met.ofW (cc := cX2_countHeld) (maxL := 3) (ret := (some .int)) (by decide) rfl ?_
  intro p e s m args below meth c s₁ B hml hv
  obtain ⟨rfl, hP, hKK⟩ := hv
  have hK := hKK.1
  have hx := B.exec
  have hb := B.bytes
  have hr := B.returns
  have hts := atoms_spec (ws := wsX2_countHeld) B.pre
  have hown : s.vm.findClass RX2 = some m.cls := findClass_of_methodNamed B.named
  have hlocks := B.notSynchronized
  have hl := lv_entry ([.ref h_per]) (n := 3) (Nat.le_of_ble_eq_true rfl)
  rw [lg_entry_eq]
  generalize (lg_sl ([.ref h_per]) ++ List.replicate (3 - (lg_sl ([.ref h_per])).length) Slot.unset).toArray = ls at hl ⊢
  have hl : lv_has ls 3 [(0, .ref h_per)] := hl
  obtain ⟨QQ, hQQ⟩ : ∃ Z, Z = MQ below (vp_Si (fun z => z = r)) ([.ref h_per] : List Value).toArray s 0 0 (fun _ => False) := ⟨_, rfl⟩
  rw [← hQQ]
  unfold fX2_countHeld at h
  refine lv_iconst (v := 0) hx hb dX2_countHeld_0 (by decide) ?_
  refine lv_istore_n (lv' := [(1, .int 0), (0, .ref h_per)]) hx hb dX2_countHeld_1 rfl hl (by decide) rfl (fun ls hl => ?_)
  refine lv_iconst (v := 0) hx hb dX2_countHeld_2 (by decide) ?_
  refine lv_istore_n (lv' := [(2, .int 0), (1, .int 0), (0, .ref h_per)]) hx hb dX2_countHeld_3 rfl hl (by decide) rfl (fun ls hl => ?_)
  refine it2_e (fun (x1 : Int32) (x2 : Int32) => ∀ ls : Array Slot, lv_has ls 3 [(2, .int x1), (1, .int x2), (0, .ref h_per)] → W p l e (headSpec wsX2_countHeld rmX2_countHeld).room s m (([.ref h_per] : List Value).toArray) below meth c s.heap [] 0 0 QQ (F0 m 4 ls [])) (fun g4_3 hg4_4 x1 x2 h ls hl => ?_) N 0 0 h ls (lv_sub hl [0, 1, 2] rfl)
  refine lv_iload_n hx hb dX2_countHeld_4 rfl (lv_at hl 0 rfl) ?_
  refine lv_aload_n hx hb dX2_countHeld_5 rfl (lv_at hl 2 rfl) ?_
  refine va_get (D := D) (ci := 2) (v := .int pg) (C := RX2) (T := TX2) (N := 2) hx hb hts inX2_countHeld_X2 hown hK hP 0 rfl rfl 1 (by decide) (hts _ lkX2_countHeld_0) (fun _ h9 => h9) rfl dX2_countHeld_6 ?_
  refine lv_icmp_ge (tgt := 34) hx hb dX2_countHeld_9 (by decide) (fun c5 => ?_) (fun c5 => ?_)
  · have h := it_t h c5
    refine lv_iload_n hx hb dX2_countHeld_34 rfl (lv_at hl 1 rfl) ?_
    rw [hQQ]
    exact W.iret (v := x2) hx hb hr (fun t ht hW => ⟨_, rfl, Option.some.inj h, ht⟩) (fun q hq => absurd hq List.not_mem_nil) dX2_countHeld_35
  · have h := it_f h c5
    refine lv_iload_n hx hb dX2_countHeld_12 rfl (lv_at hl 1 rfl) ?_
    refine lv_aload_n hx hb dX2_countHeld_13 rfl (lv_at hl 2 rfl) ?_
    refine lv_iload_n hx hb dX2_countHeld_14 rfl (lv_at hl 0 rfl) ?_
    obtain ⟨v6, hq7, h⟩ := bd1_e h
    refine zz_cV (As := [.int x1]) ⟨hx, hb, hml, hown, hts⟩ (kX2_isHeld l D cI cZ cL h_per h_hol pg hol x1 N hq7) (cwV 1 hts gX2_countHeld_X2_isHeld rfl rfl rfl (by decide +kernel) ⟨Nat.le_of_ble_eq_true rfl, Nat.le_of_ble_eq_true rfl⟩) (hP.sub (ws' := [(h_per, .inr (2, [.ref h_hol, .int pg])), (h_hol, .inl (cI, 10, .inl hol))]) [0, 1] rfl) hKK (va_recv hK hP (ci := 2) (q0 := 0) rfl rfl) rfl hl.1 rfl (Nat.le_of_ble_eq_true rfl) dX2_countHeld_15 ⟨Nat.le_of_ble_eq_true rfl, Nat.le_of_ble_eq_true rfl⟩ ?_
    refine lv_if_eq (tgt := 25) hx hb dX2_countHeld_18 (by decide) (fun c8 => ?_) (fun c8 => ?_)
    · have h := it_t h c8
      refine lv_iconst (v := 0) hx hb dX2_countHeld_25 (by decide) ?_
      refine lv_iadd hx hb dX2_countHeld_26 ?_
      refine lv_istore_n (lv' := [(1, .int (x2 + 0)), (2, .int x1), (0, .ref h_per)]) hx hb dX2_countHeld_27 rfl hl (by decide) rfl (fun ls hl => ?_)
      refine lv_iinc (v := x1 + 1) (lv' := [(2, .int (x1 + 1)), (1, .int (x2 + 0)), (0, .ref h_per)]) hx hb dX2_countHeld_28 hl (k := 1) rfl rfl (by decide) rfl (fun ls hl => ?_)
      refine lv_goto (tgt := 4) hx hb dX2_countHeld_31 (by decide) ?_
      exact hg4_4 (x1 + 1) (x2 + 0) h ls (lv_sub hl [0, 1, 2] rfl)
    · have h := it_f h c8
      refine lv_iconst (v := 1) hx hb dX2_countHeld_21 (by decide) ?_
      refine lv_goto (tgt := 26) hx hb dX2_countHeld_22 (by decide) ?_
      refine lv_iadd hx hb dX2_countHeld_26 ?_
      refine lv_istore_n (lv' := [(1, .int (x2 + 1)), (2, .int x1), (0, .ref h_per)]) hx hb dX2_countHeld_27 rfl hl (by decide) rfl (fun ls hl => ?_)
      refine lv_iinc (v := x1 + 1) (lv' := [(2, .int (x1 + 1)), (1, .int (x2 + 1)), (0, .ref h_per)]) hx hb dX2_countHeld_28 hl (k := 1) rfl rfl (by decide) rfl (fun ls hl => ?_)
      refine lv_goto (tgt := 4) hx hb dX2_countHeld_31 (by decide) ?_
      exact hg4_4 (x1 + 1) (x2 + 1) h ls (lv_sub hl [0, 1, 2] rfl)

def fX2_heldNodes (N : Nat) (pg : Int32) (hol : Nat → Int32) : Option ((Int32)) :=
  it2 (fun g4_3 (x1 : Int32) (x2 : Int32) => (if pg ≤ x1 then some x2 else gin x1 10 (g4_3 (x1 + 1) (x2 ||| (hol x1.toNatClampNeg))))) N 0 0
set_option maxRecDepth 100000 in
theorem inX2_heldNodes_X2 : ∀ w ∈ wsX20, w ∈ wsX2_heldNodes := by decide +kernel
set_option maxRecDepth 100000 in
theorem lkX2_heldNodes_0 : (.fieldLink RX2 15 "Switchlog$Permits" "given" "I" : Cond) ∈ wsX2_heldNodes := by decide +kernel
set_option maxRecDepth 100000 in
theorem lkX2_heldNodes_1 : (.fieldLink RX2 9 "Switchlog$Permits" "holds" "[I" : Cond) ∈ wsX2_heldNodes := by decide +kernel
abbrev rmX2_heldNodes : Room := { frames := 0, cells := 0, slots := 0, locals := 0 }
set_option maxHeartbeats 4000000 in
set_option maxRecDepth 100000 in
theorem kX2_heldNodes (l : Launch) (D : va_G) (cI cZ cL : ClassId) (h_per h_hol : Nat) (pg : Int32) (hol : Nat → Int32)  (N : Nat) {r : Int32} (h : fX2_heldNodes N pg hol  = some r) : Met l yX2_heldNodes wsX2_heldNodes rmX2_heldNodes (PR D cI cZ cL [.ref h_per] [(h_per, .inr (2, [.ref h_hol, .int pg])), (h_hol, .inl (cI, 10, .inl hol))]) (vp_Si (fun z => z = r)) 0 0 (fun _ => False) := by
  refine Met.ofW (cc := cX2_heldNodes) (maxL := 3) (ret := (some .int)) (by decide) rfl ?_
  intro p e s m args below meth c s₁ B hml hv
  obtain ⟨rfl, hP, hKK⟩ := hv
  have hK := hKK.1
  have hx := B.exec
  have hb := B.bytes
  have hr := B.returns
  have hts := atoms_spec (ws := wsX2_heldNodes) B.pre
  have hown : s.vm.findClass RX2 = some m.cls := findClass_of_methodNamed B.named
  have hlocks := B.notSynchronized
  have hl := lv_entry ([.ref h_per]) (n := 3) (Nat.le_of_ble_eq_true rfl)
  rw [lg_entry_eq]
  generalize (lg_sl ([.ref h_per]) ++ List.replicate (3 - (lg_sl ([.ref h_per])).length) Slot.unset).toArray = ls at hl ⊢
  have hl : lv_has ls 3 [(0, .ref h_per)] := hl
  obtain ⟨QQ, hQQ⟩ : ∃ Z, Z = MQ below (vp_Si (fun z => z = r)) ([.ref h_per] : List Value).toArray s 0 0 (fun _ => False) := ⟨_, rfl⟩
  rw [← hQQ]
  unfold fX2_heldNodes at h
  refine lv_iconst (v := 0) hx hb dX2_heldNodes_0 (by decide) ?_
  refine lv_istore_n (lv' := [(1, .int 0), (0, .ref h_per)]) hx hb dX2_heldNodes_1 rfl hl (by decide) rfl (fun ls hl => ?_)
  refine lv_iconst (v := 0) hx hb dX2_heldNodes_2 (by decide) ?_
  refine lv_istore_n (lv' := [(2, .int 0), (1, .int 0), (0, .ref h_per)]) hx hb dX2_heldNodes_3 rfl hl (by decide) rfl (fun ls hl => ?_)
  refine it2_e (fun (x1 : Int32) (x2 : Int32) => ∀ ls : Array Slot, lv_has ls 3 [(2, .int x1), (1, .int x2), (0, .ref h_per)] → W p l e (headSpec wsX2_heldNodes rmX2_heldNodes).room s m (([.ref h_per] : List Value).toArray) below meth c s.heap [] 0 0 QQ (F0 m 4 ls [])) (fun g4_3 hg4_4 x1 x2 h ls hl => ?_) N 0 0 h ls (lv_sub hl [0, 1, 2] rfl)
  refine lv_iload_n hx hb dX2_heldNodes_4 rfl (lv_at hl 0 rfl) ?_
  refine lv_aload_n hx hb dX2_heldNodes_5 rfl (lv_at hl 2 rfl) ?_
  refine va_get (D := D) (ci := 2) (v := .int pg) (C := RX2) (T := TX2) (N := 2) hx hb hts inX2_heldNodes_X2 hown hK hP 0 rfl rfl 1 (by decide) (hts _ lkX2_heldNodes_0) (fun _ h9 => h9) rfl dX2_heldNodes_6 ?_
  refine lv_icmp_ge (tgt := 27) hx hb dX2_heldNodes_9 (by decide) (fun c5 => ?_) (fun c5 => ?_)
  · have h := it_t h c5
    refine lv_iload_n hx hb dX2_heldNodes_27 rfl (lv_at hl 1 rfl) ?_
    rw [hQQ]
    exact W.iret (v := x2) hx hb hr (fun t ht hW => ⟨_, rfl, Option.some.inj h, ht⟩) (fun q hq => absurd hq List.not_mem_nil) dX2_heldNodes_28
  · have h := it_f h c5
    refine lv_iload_n hx hb dX2_heldNodes_12 rfl (lv_at hl 1 rfl) ?_
    refine lv_aload_n hx hb dX2_heldNodes_13 rfl (lv_at hl 2 rfl) ?_
    refine va_get (D := D) (ci := 2) (v := .ref h_hol) (C := RX2) (T := TX2) (N := 2) hx hb hts inX2_heldNodes_X2 hown hK hP 0 rfl rfl 0 (by decide) (hts _ lkX2_heldNodes_1) (fun _ h9 => h9) rfl dX2_heldNodes_14 ?_
    refine lv_iload_n hx hb dX2_heldNodes_17 rfl (lv_at hl 0 rfl) ?_
    obtain ⟨hi6, h⟩ := gin_e h
    refine va_iald hx hb hK hP 1 0 rfl rfl hi6 dX2_heldNodes_18 ?_
    refine lv_ior hx hb dX2_heldNodes_19 ?_
    refine lv_istore_n (lv' := [(1, .int (x2 ||| (hol x1.toNatClampNeg))), (2, .int x1), (0, .ref h_per)]) hx hb dX2_heldNodes_20 rfl hl (by decide) rfl (fun ls hl => ?_)
    refine lv_iinc (v := x1 + 1) (lv' := [(2, .int (x1 + 1)), (1, .int (x2 ||| (hol x1.toNatClampNeg))), (0, .ref h_per)]) hx hb dX2_heldNodes_21 hl (k := 1) rfl rfl (by decide) rfl (fun ls hl => ?_)
    refine lv_goto (tgt := 4) hx hb dX2_heldNodes_24 (by decide) ?_
    exact hg4_4 (x1 + 1) (x2 ||| (hol x1.toNatClampNeg)) h ls (lv_sub hl [0, 1, 2] rfl)

def fX2_give (N : Nat) (pg : Int32) (hol : Nat → Int32) (p0 : Int32) : Option ((Int32) × (Nat → Int32) × (Int32)) :=
  gin pg 10 (some (pg, upd hol pg.toNatClampNeg p0, pg + 1))
set_option maxRecDepth 100000 in
theorem inX2_give_X2 : ∀ w ∈ wsX20, w ∈ wsX2_give := by decide +kernel
set_option maxRecDepth 100000 in
theorem lkX2_give_0 : (.fieldLink RX2 9 "Switchlog$Permits" "holds" "[I" : Cond) ∈ wsX2_give := by decide +kernel
set_option maxRecDepth 100000 in
theorem lkX2_give_1 : (.fieldLink RX2 15 "Switchlog$Permits" "given" "I" : Cond) ∈ wsX2_give := by decide +kernel
abbrev rmX2_give : Room := { frames := 0, cells := 0, slots := 0, locals := 0 }
set_option maxHeartbeats 4000000 in
set_option maxRecDepth 100000 in
theorem kX2_give (l : Launch) (D : va_G) (cI cZ cL : ClassId) (sz0 : Nat) (h_per h_hol : Nat) (pg : Int32) (hol : Nat → Int32) (p0 : Int32) (N : Nat) {r : Int32} {r_0 : Nat → Int32} {r_1 : Int32} (h : fX2_give N pg hol p0 = some (r, r_0, r_1)) : Met l yX2_give wsX2_give rmX2_give (PM D cI cZ cL [.ref h_per, .int p0] [(h_per, .inr (2, [.ref h_hol, .int pg])), (h_hol, .inl (cI, 10, .inl hol))] sz0) (QM D (some (.int r)) (va_A [(h_per, .inr (2, [.ref h_hol, .int pg])), (h_hol, .inl (cI, 10, .inl hol))] sz0) [(h_per, .inr (2, [.ref h_hol, .int r_1])), (h_hol, .inl (cI, 10, .inl r_0))]) 0 0 (va_A [(h_per, .inr (2, [.ref h_hol, .int pg])), (h_hol, .inl (cI, 10, .inl hol))] sz0) := by
  refine Met.ofW (cc := cX2_give) (maxL := 2) (ret := (some .int)) (by decide) rfl ?_
  intro p e s m args below meth c s₁ B hml hv
  obtain ⟨rfl, hsz, hP, hKK, hD0⟩ := hv
  have hK := hKK.1
  have hx := B.exec
  have hb := B.bytes
  have hr := B.returns
  have hts := atoms_spec (ws := wsX2_give) B.pre
  have hown : s.vm.findClass RX2 = some m.cls := findClass_of_methodNamed B.named
  have hlocks := B.notSynchronized
  subst hsz
  have hD := hD0.self (sz := s.heap.size)
  generalize hAe : va_A [(h_per, .inr (2, [.ref h_hol, .int pg])), (h_hol, .inl (cI, 10, .inl hol))] s.heap.size = A at hD ⊢
  have hA : ∀ q : Nat, s.heap.size ≤ q → A q := fun q h => by rw [← hAe]; exact Or.inr h
  have hS : va_S A s.heap s.heap [] := va_S.rf
  have hl := lv_entry ([.ref h_per, .int p0]) (n := 2) (Nat.le_of_ble_eq_true rfl)
  rw [lg_entry_eq]
  generalize (lg_sl ([.ref h_per, .int p0]) ++ List.replicate (2 - (lg_sl ([.ref h_per, .int p0])).length) Slot.unset).toArray = ls at hl ⊢
  have hl : lv_has ls 2 [(0, .ref h_per), (1, .int p0)] := hl
  obtain ⟨QQ, hQQ⟩ : ∃ Z, Z = MQ below (QM D (some (.int r)) A [(h_per, .inr (2, [.ref h_hol, .int r_1])), (h_hol, .inl (cI, 10, .inl r_0))]) ([.ref h_per, .int p0] : List Value).toArray s 0 0 A := ⟨_, rfl⟩
  rw [← hQQ]
  obtain ⟨H, locs, hHe, hLe⟩ : ∃ (H : Heap) (locs : List Loc), H = s.heap ∧ locs = [] := ⟨_, _, rfl, rfl⟩
  have hP : va_P D vwCl [(h_per, .inr (2, [.ref h_hol, .int pg])), (h_hol, .inl (cI, 10, .inl hol))] H := by rw [hHe]; exact hP
  have hS : va_S A s.heap H locs := by rw [hHe, hLe]; exact hS
  have hW0 : ∀ QQ : State → Prop, W p l e (headSpec wsX2_give rmX2_give).room s m (([.ref h_per, .int p0] : List Value).toArray) below meth c H locs 0 0 QQ (F0 m 0 ls []) → W p l e (headSpec wsX2_give rmX2_give).room s m (([.ref h_per, .int p0] : List Value).toArray) below meth c s.heap [] 0 0 QQ (F0 m 0 ls []) := by rw [hHe, hLe]; exact fun _ h => h
  refine hW0 _ ?_
  clear hW0
  unfold fX2_give at h
  refine lv_aload_n hx hb dX2_give_0 rfl (lv_at hl 0 rfl) ?_
  refine va_get (D := D) (ci := 2) (v := .ref h_hol) (C := RX2) (T := TX2) (N := 2) hx hb hts inX2_give_X2 hown hK hP 0 rfl rfl 0 (by decide) (hts _ lkX2_give_0) (fun _ h9 => h9) rfl dX2_give_1 ?_
  refine lv_aload_n hx hb dX2_give_4 rfl (lv_at hl 0 rfl) ?_
  refine va_get (D := D) (ci := 2) (v := .int pg) (C := RX2) (T := TX2) (N := 2) hx hb hts inX2_give_X2 hown hK hP 0 rfl rfl 1 (by decide) (hts _ lkX2_give_1) (fun _ h9 => h9) rfl dX2_give_5 ?_
  refine lv_iload_n hx hb dX2_give_8 rfl (lv_at hl 1 rfl) ?_
  obtain ⟨hi1, h⟩ := gin_e h
  refine va_iast hx hb hK hP hD hS 1 0 rfl rfl hi1 dX2_give_9 (fun H locs hP hD hS => ?_)
  have hP : va_P D vwCl [(h_per, .inr (2, [.ref h_hol, .int pg])), (h_hol, .inl (cI, 10, .inl (upd hol pg.toNatClampNeg p0)))] H := hP
  have hD : va_D A [(h_per, .inr (2, [.ref h_hol, .int pg])), (h_hol, .inl (cI, 10, .inl (upd hol pg.toNatClampNeg p0)))] := hD
  refine lv_aload_n hx hb dX2_give_10 rfl (lv_at hl 0 rfl) ?_
  refine lv_dup hx hb dX2_give_11 rfl ?_
  refine va_get (D := D) (ci := 2) (v := .int pg) (C := RX2) (T := TX2) (N := 2) hx hb hts inX2_give_X2 hown hK hP 0 rfl rfl 1 (by decide) (hts _ lkX2_give_1) (fun _ h9 => h9) rfl dX2_give_12 ?_
  refine lv_dup_x1 hx hb dX2_give_15 rfl rfl ?_
  refine lv_iconst (v := 1) hx hb dX2_give_16 (by decide) ?_
  refine lv_iadd hx hb dX2_give_17 ?_
  refine va_put (D := D) (ci := 2) (v := .int (pg + 1)) (ty := .int) (C := RX2) (T := TX2) (N := 2) hx hb hts inX2_give_X2 tyX2 tyX2_ok nmX2 hown hK hP hD hS 0 rfl rfl 1 (by decide) (hts _ lkX2_give_1) (fun _ h9 => h9) rfl (by decide +kernel) rfl rfl (Nat.le_of_ble_eq_true rfl) dX2_give_18 (fun H locs hP hD hS => ?_)
  have hP : va_P D vwCl [(h_per, .inr (2, [.ref h_hol, .int (pg + 1)])), (h_hol, .inl (cI, 10, .inl (upd hol pg.toNatClampNeg p0)))] H := hP
  have hD : va_D A [(h_per, .inr (2, [.ref h_hol, .int (pg + 1)])), (h_hol, .inl (cI, 10, .inl (upd hol pg.toNatClampNeg p0)))] := hD
  cases h
  rw [hQQ]
  exact W.iret hx hb hr (fun t ht hW => ⟨rfl, by rw [ht]; exact hP, hD, hS.F ht⟩) hS.2.2 dX2_give_21

def fX2_release (N : Nat) (pg : Int32) (hol : Nat → Int32) (p0 : Int32) : Option ((Nat → Int32)) :=
  gin p0 10 (some (upd hol p0.toNatClampNeg 0))
set_option maxRecDepth 100000 in
theorem inX2_release_X2 : ∀ w ∈ wsX20, w ∈ wsX2_release := by decide +kernel
set_option maxRecDepth 100000 in
theorem lkX2_release_0 : (.fieldLink RX2 9 "Switchlog$Permits" "holds" "[I" : Cond) ∈ wsX2_release := by decide +kernel
abbrev rmX2_release : Room := { frames := 0, cells := 0, slots := 0, locals := 0 }
set_option maxHeartbeats 4000000 in
set_option maxRecDepth 100000 in
theorem kX2_release (l : Launch) (D : va_G) (cI cZ cL : ClassId) (sz0 : Nat) (h_per h_hol : Nat) (pg : Int32) (hol : Nat → Int32) (p0 : Int32) (N : Nat) {r_0 : Nat → Int32} (h : fX2_release N pg hol p0 = some r_0) : Met l yX2_release wsX2_release rmX2_release (PM D cI cZ cL [.ref h_per, .int p0] [(h_per, .inr (2, [.ref h_hol, .int pg])), (h_hol, .inl (cI, 10, .inl hol))] sz0) (QM D none (va_A [(h_per, .inr (2, [.ref h_hol, .int pg])), (h_hol, .inl (cI, 10, .inl hol))] sz0) [(h_per, .inr (2, [.ref h_hol, .int pg])), (h_hol, .inl (cI, 10, .inl r_0))]) 0 0 (va_A [(h_per, .inr (2, [.ref h_hol, .int pg])), (h_hol, .inl (cI, 10, .inl hol))] sz0) := by
  refine Met.ofW (cc := cX2_release) (maxL := 2) (ret := none) (by decide) rfl ?_
  intro p e s m args below meth c s₁ B hml hv
  obtain ⟨rfl, hsz, hP, hKK, hD0⟩ := hv
  have hK := hKK.1
  have hx := B.exec
  have hb := B.bytes
  have hr := B.returns
  have hts := atoms_spec (ws := wsX2_release) B.pre
  have hown : s.vm.findClass RX2 = some m.cls := findClass_of_methodNamed B.named
  have hlocks := B.notSynchronized
  subst hsz
  have hD := hD0.self (sz := s.heap.size)
  generalize hAe : va_A [(h_per, .inr (2, [.ref h_hol, .int pg])), (h_hol, .inl (cI, 10, .inl hol))] s.heap.size = A at hD ⊢
  have hA : ∀ q : Nat, s.heap.size ≤ q → A q := fun q h => by rw [← hAe]; exact Or.inr h
  have hS : va_S A s.heap s.heap [] := va_S.rf
  have hl := lv_entry ([.ref h_per, .int p0]) (n := 2) (Nat.le_of_ble_eq_true rfl)
  rw [lg_entry_eq]
  generalize (lg_sl ([.ref h_per, .int p0]) ++ List.replicate (2 - (lg_sl ([.ref h_per, .int p0])).length) Slot.unset).toArray = ls at hl ⊢
  have hl : lv_has ls 2 [(0, .ref h_per), (1, .int p0)] := hl
  obtain ⟨QQ, hQQ⟩ : ∃ Z, Z = MQ below (QM D none A [(h_per, .inr (2, [.ref h_hol, .int pg])), (h_hol, .inl (cI, 10, .inl r_0))]) ([.ref h_per, .int p0] : List Value).toArray s 0 0 A := ⟨_, rfl⟩
  rw [← hQQ]
  obtain ⟨H, locs, hHe, hLe⟩ : ∃ (H : Heap) (locs : List Loc), H = s.heap ∧ locs = [] := ⟨_, _, rfl, rfl⟩
  have hP : va_P D vwCl [(h_per, .inr (2, [.ref h_hol, .int pg])), (h_hol, .inl (cI, 10, .inl hol))] H := by rw [hHe]; exact hP
  have hS : va_S A s.heap H locs := by rw [hHe, hLe]; exact hS
  have hW0 : ∀ QQ : State → Prop, W p l e (headSpec wsX2_release rmX2_release).room s m (([.ref h_per, .int p0] : List Value).toArray) below meth c H locs 0 0 QQ (F0 m 0 ls []) → W p l e (headSpec wsX2_release rmX2_release).room s m (([.ref h_per, .int p0] : List Value).toArray) below meth c s.heap [] 0 0 QQ (F0 m 0 ls []) := by rw [hHe, hLe]; exact fun _ h => h
  refine hW0 _ ?_
  clear hW0
  unfold fX2_release at h
  refine lv_aload_n hx hb dX2_release_0 rfl (lv_at hl 0 rfl) ?_
  refine va_get (D := D) (ci := 2) (v := .ref h_hol) (C := RX2) (T := TX2) (N := 2) hx hb hts inX2_release_X2 hown hK hP 0 rfl rfl 0 (by decide) (hts _ lkX2_release_0) (fun _ h9 => h9) rfl dX2_release_1 ?_
  refine lv_iload_n hx hb dX2_release_4 rfl (lv_at hl 1 rfl) ?_
  refine lv_iconst (v := 0) hx hb dX2_release_5 (by decide) ?_
  obtain ⟨hi1, h⟩ := gin_e h
  refine va_iast hx hb hK hP hD hS 1 0 rfl rfl hi1 dX2_release_6 (fun H locs hP hD hS => ?_)
  have hP : va_P D vwCl [(h_per, .inr (2, [.ref h_hol, .int pg])), (h_hol, .inl (cI, 10, .inl (upd hol p0.toNatClampNeg 0)))] H := hP
  have hD : va_D A [(h_per, .inr (2, [.ref h_hol, .int pg])), (h_hol, .inl (cI, 10, .inl (upd hol p0.toNatClampNeg 0)))] := hD
  cases h
  rw [hQQ]
  exact W.vret hx hb hr (fun t ht hW => ⟨rfl, by rw [ht]; exact hP, hD, hS.F ht⟩) hS.2.2 dX2_release_7

def fX3_isOn (N : Nat) (tcl : Int32) (tea : Int32) (ton : Int32) (p0 : Int32) (p1 : Int32) : Option ((Int32)) :=
  (if p0 = 0 then (if ((tcl >>> (p1 &&& 31)) &&& 1) = 0 then some 0 else some 1) else (if p0 = 1 then (if ((tcl >>> (p1 &&& 31)) &&& 1) = 0 then some 0 else some 1) else (if p0 = 2 then (if ((tea >>> (p1 &&& 31)) &&& 1) = 0 then some 0 else some 1) else (if p0 = 3 then (if ((tea >>> (p1 &&& 31)) &&& 1) = 0 then some 0 else some 1) else (if ((ton >>> (p1 &&& 31)) &&& 1) = 0 then some 0 else some 1)))))
set_option maxRecDepth 100000 in
theorem inX3_isOn_X3 : ∀ w ∈ wsX30, w ∈ wsX3_isOn := by decide +kernel
set_option maxRecDepth 100000 in
theorem lkX3_isOn_0 : (.fieldLink RX3 9 "Switchlog$State" "closed" "I" : Cond) ∈ wsX3_isOn := by decide +kernel
set_option maxRecDepth 100000 in
theorem lkX3_isOn_1 : (.fieldLink RX3 15 "Switchlog$State" "earths" "I" : Cond) ∈ wsX3_isOn := by decide +kernel
set_option maxRecDepth 100000 in
theorem lkX3_isOn_2 : (.fieldLink RX3 18 "Switchlog$State" "sources" "I" : Cond) ∈ wsX3_isOn := by decide +kernel
abbrev rmX3_isOn : Room := { frames := 0, cells := 0, slots := 0, locals := 0 }
set_option maxHeartbeats 4000000 in
set_option maxRecDepth 100000 in
theorem kX3_isOn (l : Launch) (D : va_G) (cI cZ cL : ClassId) (h_st : Nat) (tcl : Int32) (tea : Int32) (ton : Int32) (p0 : Int32) (p1 : Int32) (N : Nat) {r : Int32} (h : fX3_isOn N tcl tea ton p0 p1 = some r) : Met l yX3_isOn wsX3_isOn rmX3_isOn (PR D cI cZ cL [.ref h_st, .int p0, .int p1] [(h_st, .inr (3, [.int tcl, .int tea, .int ton]))]) (vp_Si (fun z => z = r)) 0 0 (fun _ => False) := by
  refine Met.ofW (cc := cX3_isOn) (maxL := 3) (ret := (some .boolean)) (by decide) rfl ?_
  intro p e s m args below meth c s₁ B hml hv
  obtain ⟨rfl, hP, hKK⟩ := hv
  have hK := hKK.1
  have hx := B.exec
  have hb := B.bytes
  have hr := B.returns
  have hts := atoms_spec (ws := wsX3_isOn) B.pre
  have hown : s.vm.findClass RX3 = some m.cls := findClass_of_methodNamed B.named
  have hlocks := B.notSynchronized
  have hl := lv_entry ([.ref h_st, .int p0, .int p1]) (n := 3) (Nat.le_of_ble_eq_true rfl)
  rw [lg_entry_eq]
  generalize (lg_sl ([.ref h_st, .int p0, .int p1]) ++ List.replicate (3 - (lg_sl ([.ref h_st, .int p0, .int p1])).length) Slot.unset).toArray = ls at hl ⊢
  have hl : lv_has ls 3 [(0, .ref h_st), (1, .int p0), (2, .int p1)] := hl
  obtain ⟨QQ, hQQ⟩ : ∃ Z, Z = MQ below (vp_Si (fun z => z = r)) ([.ref h_st, .int p0, .int p1] : List Value).toArray s 0 0 (fun _ => False) := ⟨_, rfl⟩
  rw [← hQQ]
  unfold fX3_isOn at h
  refine lv_iload_n hx hb dX3_isOn_0 rfl (lv_at hl 1 rfl) ?_
  by_cases c1 : p0 = 0
  · have h := it_t h c1
    refine lv_tableIn (tgt := 32) hx hb dX3_isOn_1 (by rw [c1]; decide) (by rw [c1]; decide) (by rw [c1]; rfl) (by decide) ?_
    refine lv_aload_n hx hb dX3_isOn_32 rfl (lv_at hl 0 rfl) ?_
    refine va_get (D := D) (ci := 3) (v := .int tcl) (C := RX3) (T := TX3) (N := 3) hx hb hts inX3_isOn_X3 hown hK hP 0 rfl rfl 0 (by decide) (hts _ lkX3_isOn_0) (fun _ h9 => h9) rfl dX3_isOn_33 ?_
    refine lv_iload_n hx hb dX3_isOn_36 rfl (lv_at hl 2 rfl) ?_
    refine lv_ishr hx hb dX3_isOn_37 ?_
    refine lv_iconst (v := 1) hx hb dX3_isOn_38 (by decide) ?_
    refine lv_iand hx hb dX3_isOn_39 ?_
    refine lv_if_eq (tgt := 47) hx hb dX3_isOn_40 (by decide) (fun c2 => ?_) (fun c2 => ?_)
    · have h := it_t h c2
      refine lv_iconst (v := 0) hx hb dX3_isOn_47 (by decide) ?_
      rw [hQQ]
      exact W.zret (v := 0) hx hb hr (by decide) (fun t ht hW => ⟨_, rfl, Option.some.inj h, ht⟩) (fun q hq => absurd hq List.not_mem_nil) dX3_isOn_48
    · have h := it_f h c2
      refine lv_iconst (v := 1) hx hb dX3_isOn_43 (by decide) ?_
      refine lv_goto (tgt := 48) hx hb dX3_isOn_44 (by decide) ?_
      rw [hQQ]
      exact W.zret (v := 1) hx hb hr (by decide) (fun t ht hW => ⟨_, rfl, Option.some.inj h, ht⟩) (fun q hq => absurd hq List.not_mem_nil) dX3_isOn_48
  have h := it_f h c1
  by_cases c3 : p0 = 1
  · have h := it_t h c3
    refine lv_tableIn (tgt := 32) hx hb dX3_isOn_1 (by rw [c3]; decide) (by rw [c3]; decide) (by rw [c3]; rfl) (by decide) ?_
    refine lv_aload_n hx hb dX3_isOn_32 rfl (lv_at hl 0 rfl) ?_
    refine va_get (D := D) (ci := 3) (v := .int tcl) (C := RX3) (T := TX3) (N := 3) hx hb hts inX3_isOn_X3 hown hK hP 0 rfl rfl 0 (by decide) (hts _ lkX3_isOn_0) (fun _ h9 => h9) rfl dX3_isOn_33 ?_
    refine lv_iload_n hx hb dX3_isOn_36 rfl (lv_at hl 2 rfl) ?_
    refine lv_ishr hx hb dX3_isOn_37 ?_
    refine lv_iconst (v := 1) hx hb dX3_isOn_38 (by decide) ?_
    refine lv_iand hx hb dX3_isOn_39 ?_
    refine lv_if_eq (tgt := 47) hx hb dX3_isOn_40 (by decide) (fun c4 => ?_) (fun c4 => ?_)
    · have h := it_t h c4
      refine lv_iconst (v := 0) hx hb dX3_isOn_47 (by decide) ?_
      rw [hQQ]
      exact W.zret (v := 0) hx hb hr (by decide) (fun t ht hW => ⟨_, rfl, Option.some.inj h, ht⟩) (fun q hq => absurd hq List.not_mem_nil) dX3_isOn_48
    · have h := it_f h c4
      refine lv_iconst (v := 1) hx hb dX3_isOn_43 (by decide) ?_
      refine lv_goto (tgt := 48) hx hb dX3_isOn_44 (by decide) ?_
      rw [hQQ]
      exact W.zret (v := 1) hx hb hr (by decide) (fun t ht hW => ⟨_, rfl, Option.some.inj h, ht⟩) (fun q hq => absurd hq List.not_mem_nil) dX3_isOn_48
  have h := it_f h c3
  by_cases c5 : p0 = 2
  · have h := it_t h c5
    refine lv_tableIn (tgt := 49) hx hb dX3_isOn_1 (by rw [c5]; decide) (by rw [c5]; decide) (by rw [c5]; rfl) (by decide) ?_
    refine lv_aload_n hx hb dX3_isOn_49 rfl (lv_at hl 0 rfl) ?_
    refine va_get (D := D) (ci := 3) (v := .int tea) (C := RX3) (T := TX3) (N := 3) hx hb hts inX3_isOn_X3 hown hK hP 0 rfl rfl 1 (by decide) (hts _ lkX3_isOn_1) (fun _ h9 => h9) rfl dX3_isOn_50 ?_
    refine lv_iload_n hx hb dX3_isOn_53 rfl (lv_at hl 2 rfl) ?_
    refine lv_ishr hx hb dX3_isOn_54 ?_
    refine lv_iconst (v := 1) hx hb dX3_isOn_55 (by decide) ?_
    refine lv_iand hx hb dX3_isOn_56 ?_
    refine lv_if_eq (tgt := 64) hx hb dX3_isOn_57 (by decide) (fun c6 => ?_) (fun c6 => ?_)
    · have h := it_t h c6
      refine lv_iconst (v := 0) hx hb dX3_isOn_64 (by decide) ?_
      rw [hQQ]
      exact W.zret (v := 0) hx hb hr (by decide) (fun t ht hW => ⟨_, rfl, Option.some.inj h, ht⟩) (fun q hq => absurd hq List.not_mem_nil) dX3_isOn_65
    · have h := it_f h c6
      refine lv_iconst (v := 1) hx hb dX3_isOn_60 (by decide) ?_
      refine lv_goto (tgt := 65) hx hb dX3_isOn_61 (by decide) ?_
      rw [hQQ]
      exact W.zret (v := 1) hx hb hr (by decide) (fun t ht hW => ⟨_, rfl, Option.some.inj h, ht⟩) (fun q hq => absurd hq List.not_mem_nil) dX3_isOn_65
  have h := it_f h c5
  by_cases c7 : p0 = 3
  · have h := it_t h c7
    refine lv_tableIn (tgt := 49) hx hb dX3_isOn_1 (by rw [c7]; decide) (by rw [c7]; decide) (by rw [c7]; rfl) (by decide) ?_
    refine lv_aload_n hx hb dX3_isOn_49 rfl (lv_at hl 0 rfl) ?_
    refine va_get (D := D) (ci := 3) (v := .int tea) (C := RX3) (T := TX3) (N := 3) hx hb hts inX3_isOn_X3 hown hK hP 0 rfl rfl 1 (by decide) (hts _ lkX3_isOn_1) (fun _ h9 => h9) rfl dX3_isOn_50 ?_
    refine lv_iload_n hx hb dX3_isOn_53 rfl (lv_at hl 2 rfl) ?_
    refine lv_ishr hx hb dX3_isOn_54 ?_
    refine lv_iconst (v := 1) hx hb dX3_isOn_55 (by decide) ?_
    refine lv_iand hx hb dX3_isOn_56 ?_
    refine lv_if_eq (tgt := 64) hx hb dX3_isOn_57 (by decide) (fun c8 => ?_) (fun c8 => ?_)
    · have h := it_t h c8
      refine lv_iconst (v := 0) hx hb dX3_isOn_64 (by decide) ?_
      rw [hQQ]
      exact W.zret (v := 0) hx hb hr (by decide) (fun t ht hW => ⟨_, rfl, Option.some.inj h, ht⟩) (fun q hq => absurd hq List.not_mem_nil) dX3_isOn_65
    · have h := it_f h c8
      refine lv_iconst (v := 1) hx hb dX3_isOn_60 (by decide) ?_
      refine lv_goto (tgt := 65) hx hb dX3_isOn_61 (by decide) ?_
      rw [hQQ]
      exact W.zret (v := 1) hx hb hr (by decide) (fun t ht hW => ⟨_, rfl, Option.some.inj h, ht⟩) (fun q hq => absurd hq List.not_mem_nil) dX3_isOn_65
  have h := it_f h c7
  have ec1 := lv_neT c1 (a := 0) (by decide)
  have ec3 := lv_neT c3 (a := 1) (by decide)
  have ec5 := lv_neT c5 (a := 2) (by decide)
  have ec7 := lv_neT c7 (a := 3) (by decide)
  refine lv_tableOut (tgt := 66) hx hb dX3_isOn_1 (by omega) (by decide) ?_
  refine lv_aload_n hx hb dX3_isOn_66 rfl (lv_at hl 0 rfl) ?_
  refine va_get (D := D) (ci := 3) (v := .int ton) (C := RX3) (T := TX3) (N := 3) hx hb hts inX3_isOn_X3 hown hK hP 0 rfl rfl 2 (by decide) (hts _ lkX3_isOn_2) (fun _ h9 => h9) rfl dX3_isOn_67 ?_
  refine lv_iload_n hx hb dX3_isOn_70 rfl (lv_at hl 2 rfl) ?_
  refine lv_ishr hx hb dX3_isOn_71 ?_
  refine lv_iconst (v := 1) hx hb dX3_isOn_72 (by decide) ?_
  refine lv_iand hx hb dX3_isOn_73 ?_
  refine lv_if_eq (tgt := 81) hx hb dX3_isOn_74 (by decide) (fun c9 => ?_) (fun c9 => ?_)
  · have h := it_t h c9
    refine lv_iconst (v := 0) hx hb dX3_isOn_81 (by decide) ?_
    rw [hQQ]
    exact W.zret (v := 0) hx hb hr (by decide) (fun t ht hW => ⟨_, rfl, Option.some.inj h, ht⟩) (fun q hq => absurd hq List.not_mem_nil) dX3_isOn_82
  · have h := it_f h c9
    refine lv_iconst (v := 1) hx hb dX3_isOn_77 (by decide) ?_
    refine lv_goto (tgt := 82) hx hb dX3_isOn_78 (by decide) ?_
    rw [hQQ]
    exact W.zret (v := 1) hx hb hr (by decide) (fun t ht hW => ⟨_, rfl, Option.some.inj h, ht⟩) (fun q hq => absurd hq List.not_mem_nil) dX3_isOn_82

def fX3_flip (N : Nat) (tcl : Int32) (tea : Int32) (ton : Int32) (p0 : Int32) (p1 : Int32) : Option ((Int32) × (Int32) × (Int32)) :=
  (if p0 = 0 then some (tcl ^^^ ((1 : Int32) <<< (p1 &&& 31)), tea, ton) else (if p0 = 1 then some (tcl ^^^ ((1 : Int32) <<< (p1 &&& 31)), tea, ton) else (if p0 = 2 then some (tcl, tea ^^^ ((1 : Int32) <<< (p1 &&& 31)), ton) else (if p0 = 3 then some (tcl, tea ^^^ ((1 : Int32) <<< (p1 &&& 31)), ton) else some (tcl, tea, ton ^^^ ((1 : Int32) <<< (p1 &&& 31)))))))
set_option maxRecDepth 100000 in
theorem inX3_flip_X3 : ∀ w ∈ wsX30, w ∈ wsX3_flip := by decide +kernel
set_option maxRecDepth 100000 in
theorem lkX3_flip_0 : (.fieldLink RX3 9 "Switchlog$State" "closed" "I" : Cond) ∈ wsX3_flip := by decide +kernel
set_option maxRecDepth 100000 in
theorem lkX3_flip_1 : (.fieldLink RX3 15 "Switchlog$State" "earths" "I" : Cond) ∈ wsX3_flip := by decide +kernel
set_option maxRecDepth 100000 in
theorem lkX3_flip_2 : (.fieldLink RX3 18 "Switchlog$State" "sources" "I" : Cond) ∈ wsX3_flip := by decide +kernel
abbrev rmX3_flip : Room := { frames := 0, cells := 0, slots := 0, locals := 0 }
set_option maxHeartbeats 4000000 in
set_option maxRecDepth 100000 in
theorem kX3_flip (l : Launch) (D : va_G) (cI cZ cL : ClassId) (sz0 : Nat) (h_st : Nat) (tcl : Int32) (tea : Int32) (ton : Int32) (p0 : Int32) (p1 : Int32) (N : Nat) {r_0 : Int32} {r_1 : Int32} {r_2 : Int32} (h : fX3_flip N tcl tea ton p0 p1 = some (r_0, r_1, r_2)) : Met l yX3_flip wsX3_flip rmX3_flip (PM D cI cZ cL [.ref h_st, .int p0, .int p1] [(h_st, .inr (3, [.int tcl, .int tea, .int ton]))] sz0) (QM D none (va_A [(h_st, .inr (3, [.int tcl, .int tea, .int ton]))] sz0) [(h_st, .inr (3, [.int r_0, .int r_1, .int r_2]))]) 0 0 (va_A [(h_st, .inr (3, [.int tcl, .int tea, .int ton]))] sz0) := by
  refine Met.ofW (cc := cX3_flip) (maxL := 4) (ret := none) (by decide) rfl ?_
  intro p e s m args below meth c s₁ B hml hv
  obtain ⟨rfl, hsz, hP, hKK, hD0⟩ := hv
  have hK := hKK.1
  have hx := B.exec
  have hb := B.bytes
  have hr := B.returns
  have hts := atoms_spec (ws := wsX3_flip) B.pre
  have hown : s.vm.findClass RX3 = some m.cls := findClass_of_methodNamed B.named
  have hlocks := B.notSynchronized
  subst hsz
  have hD := hD0.self (sz := s.heap.size)
  generalize hAe : va_A [(h_st, .inr (3, [.int tcl, .int tea, .int ton]))] s.heap.size = A at hD ⊢
  have hA : ∀ q : Nat, s.heap.size ≤ q → A q := fun q h => by rw [← hAe]; exact Or.inr h
  have hS : va_S A s.heap s.heap [] := va_S.rf
  have hl := lv_entry ([.ref h_st, .int p0, .int p1]) (n := 4) (Nat.le_of_ble_eq_true rfl)
  rw [lg_entry_eq]
  generalize (lg_sl ([.ref h_st, .int p0, .int p1]) ++ List.replicate (4 - (lg_sl ([.ref h_st, .int p0, .int p1])).length) Slot.unset).toArray = ls at hl ⊢
  have hl : lv_has ls 4 [(0, .ref h_st), (1, .int p0), (2, .int p1)] := hl
  obtain ⟨QQ, hQQ⟩ : ∃ Z, Z = MQ below (QM D none A [(h_st, .inr (3, [.int r_0, .int r_1, .int r_2]))]) ([.ref h_st, .int p0, .int p1] : List Value).toArray s 0 0 A := ⟨_, rfl⟩
  rw [← hQQ]
  obtain ⟨H, locs, hHe, hLe⟩ : ∃ (H : Heap) (locs : List Loc), H = s.heap ∧ locs = [] := ⟨_, _, rfl, rfl⟩
  have hP : va_P D vwCl [(h_st, .inr (3, [.int tcl, .int tea, .int ton]))] H := by rw [hHe]; exact hP
  have hS : va_S A s.heap H locs := by rw [hHe, hLe]; exact hS
  have hW0 : ∀ QQ : State → Prop, W p l e (headSpec wsX3_flip rmX3_flip).room s m (([.ref h_st, .int p0, .int p1] : List Value).toArray) below meth c H locs 0 0 QQ (F0 m 0 ls []) → W p l e (headSpec wsX3_flip rmX3_flip).room s m (([.ref h_st, .int p0, .int p1] : List Value).toArray) below meth c s.heap [] 0 0 QQ (F0 m 0 ls []) := by rw [hHe, hLe]; exact fun _ h => h
  refine hW0 _ ?_
  clear hW0
  unfold fX3_flip at h
  refine lv_iconst (v := 1) hx hb dX3_flip_0 (by decide) ?_
  refine lv_iload_n hx hb dX3_flip_1 rfl (lv_at hl 2 rfl) ?_
  refine lv_ishl hx hb dX3_flip_2 ?_
  refine lv_istore_n (lv' := [(3, .int ((1 : Int32) <<< (p1 &&& 31))), (0, .ref h_st), (1, .int p0), (2, .int p1)]) hx hb dX3_flip_3 rfl hl (by decide) rfl (fun ls hl => ?_)
  refine lv_iload_n hx hb dX3_flip_4 rfl (lv_at hl 2 rfl) ?_
  by_cases c1 : p0 = 0
  · have h := it_t h c1
    refine lv_tableIn (tgt := 36) hx hb dX3_flip_5 (by rw [c1]; decide) (by rw [c1]; decide) (by rw [c1]; rfl) (by decide) ?_
    refine lv_aload_n hx hb dX3_flip_36 rfl (lv_at hl 1 rfl) ?_
    refine lv_dup hx hb dX3_flip_37 rfl ?_
    refine va_get (D := D) (ci := 3) (v := .int tcl) (C := RX3) (T := TX3) (N := 3) hx hb hts inX3_flip_X3 hown hK hP 0 rfl rfl 0 (by decide) (hts _ lkX3_flip_0) (fun _ h9 => h9) rfl dX3_flip_38 ?_
    refine lv_iload_n hx hb dX3_flip_41 rfl (lv_at hl 0 rfl) ?_
    refine lv_ixor hx hb dX3_flip_42 ?_
    refine va_put (D := D) (ci := 3) (v := .int (tcl ^^^ ((1 : Int32) <<< (p1 &&& 31)))) (ty := .int) (C := RX3) (T := TX3) (N := 3) hx hb hts inX3_flip_X3 tyX3 tyX3_ok nmX3 hown hK hP hD hS 0 rfl rfl 0 (by decide) (hts _ lkX3_flip_0) (fun _ h9 => h9) rfl (by decide +kernel) rfl rfl (Nat.le_of_ble_eq_true rfl) dX3_flip_43 (fun H locs hP hD hS => ?_)
    have hP : va_P D vwCl [(h_st, .inr (3, [.int (tcl ^^^ ((1 : Int32) <<< (p1 &&& 31))), .int tea, .int ton]))] H := hP
    have hD : va_D A [(h_st, .inr (3, [.int (tcl ^^^ ((1 : Int32) <<< (p1 &&& 31))), .int tea, .int ton]))] := hD
    refine lv_goto (tgt := 72) hx hb dX3_flip_46 (by decide) ?_
    cases h
    rw [hQQ]
    exact W.vret hx hb hr (fun t ht hW => ⟨rfl, by rw [ht]; exact hP, hD, hS.F ht⟩) hS.2.2 dX3_flip_72
  have h := it_f h c1
  by_cases c2 : p0 = 1
  · have h := it_t h c2
    refine lv_tableIn (tgt := 36) hx hb dX3_flip_5 (by rw [c2]; decide) (by rw [c2]; decide) (by rw [c2]; rfl) (by decide) ?_
    refine lv_aload_n hx hb dX3_flip_36 rfl (lv_at hl 1 rfl) ?_
    refine lv_dup hx hb dX3_flip_37 rfl ?_
    refine va_get (D := D) (ci := 3) (v := .int tcl) (C := RX3) (T := TX3) (N := 3) hx hb hts inX3_flip_X3 hown hK hP 0 rfl rfl 0 (by decide) (hts _ lkX3_flip_0) (fun _ h9 => h9) rfl dX3_flip_38 ?_
    refine lv_iload_n hx hb dX3_flip_41 rfl (lv_at hl 0 rfl) ?_
    refine lv_ixor hx hb dX3_flip_42 ?_
    refine va_put (D := D) (ci := 3) (v := .int (tcl ^^^ ((1 : Int32) <<< (p1 &&& 31)))) (ty := .int) (C := RX3) (T := TX3) (N := 3) hx hb hts inX3_flip_X3 tyX3 tyX3_ok nmX3 hown hK hP hD hS 0 rfl rfl 0 (by decide) (hts _ lkX3_flip_0) (fun _ h9 => h9) rfl (by decide +kernel) rfl rfl (Nat.le_of_ble_eq_true rfl) dX3_flip_43 (fun H locs hP hD hS => ?_)
    have hP : va_P D vwCl [(h_st, .inr (3, [.int (tcl ^^^ ((1 : Int32) <<< (p1 &&& 31))), .int tea, .int ton]))] H := hP
    have hD : va_D A [(h_st, .inr (3, [.int (tcl ^^^ ((1 : Int32) <<< (p1 &&& 31))), .int tea, .int ton]))] := hD
    refine lv_goto (tgt := 72) hx hb dX3_flip_46 (by decide) ?_
    cases h
    rw [hQQ]
    exact W.vret hx hb hr (fun t ht hW => ⟨rfl, by rw [ht]; exact hP, hD, hS.F ht⟩) hS.2.2 dX3_flip_72
  have h := it_f h c2
  by_cases c3 : p0 = 2
  · have h := it_t h c3
    refine lv_tableIn (tgt := 49) hx hb dX3_flip_5 (by rw [c3]; decide) (by rw [c3]; decide) (by rw [c3]; rfl) (by decide) ?_
    refine lv_aload_n hx hb dX3_flip_49 rfl (lv_at hl 1 rfl) ?_
    refine lv_dup hx hb dX3_flip_50 rfl ?_
    refine va_get (D := D) (ci := 3) (v := .int tea) (C := RX3) (T := TX3) (N := 3) hx hb hts inX3_flip_X3 hown hK hP 0 rfl rfl 1 (by decide) (hts _ lkX3_flip_1) (fun _ h9 => h9) rfl dX3_flip_51 ?_
    refine lv_iload_n hx hb dX3_flip_54 rfl (lv_at hl 0 rfl) ?_
    refine lv_ixor hx hb dX3_flip_55 ?_
    refine va_put (D := D) (ci := 3) (v := .int (tea ^^^ ((1 : Int32) <<< (p1 &&& 31)))) (ty := .int) (C := RX3) (T := TX3) (N := 3) hx hb hts inX3_flip_X3 tyX3 tyX3_ok nmX3 hown hK hP hD hS 0 rfl rfl 1 (by decide) (hts _ lkX3_flip_1) (fun _ h9 => h9) rfl (by decide +kernel) rfl rfl (Nat.le_of_ble_eq_true rfl) dX3_flip_56 (fun H locs hP hD hS => ?_)
    have hP : va_P D vwCl [(h_st, .inr (3, [.int tcl, .int (tea ^^^ ((1 : Int32) <<< (p1 &&& 31))), .int ton]))] H := hP
    have hD : va_D A [(h_st, .inr (3, [.int tcl, .int (tea ^^^ ((1 : Int32) <<< (p1 &&& 31))), .int ton]))] := hD
    refine lv_goto (tgt := 72) hx hb dX3_flip_59 (by decide) ?_
    cases h
    rw [hQQ]
    exact W.vret hx hb hr (fun t ht hW => ⟨rfl, by rw [ht]; exact hP, hD, hS.F ht⟩) hS.2.2 dX3_flip_72
  have h := it_f h c3
  by_cases c4 : p0 = 3
  · have h := it_t h c4
    refine lv_tableIn (tgt := 49) hx hb dX3_flip_5 (by rw [c4]; decide) (by rw [c4]; decide) (by rw [c4]; rfl) (by decide) ?_
    refine lv_aload_n hx hb dX3_flip_49 rfl (lv_at hl 1 rfl) ?_
    refine lv_dup hx hb dX3_flip_50 rfl ?_
    refine va_get (D := D) (ci := 3) (v := .int tea) (C := RX3) (T := TX3) (N := 3) hx hb hts inX3_flip_X3 hown hK hP 0 rfl rfl 1 (by decide) (hts _ lkX3_flip_1) (fun _ h9 => h9) rfl dX3_flip_51 ?_
    refine lv_iload_n hx hb dX3_flip_54 rfl (lv_at hl 0 rfl) ?_
    refine lv_ixor hx hb dX3_flip_55 ?_
    refine va_put (D := D) (ci := 3) (v := .int (tea ^^^ ((1 : Int32) <<< (p1 &&& 31)))) (ty := .int) (C := RX3) (T := TX3) (N := 3) hx hb hts inX3_flip_X3 tyX3 tyX3_ok nmX3 hown hK hP hD hS 0 rfl rfl 1 (by decide) (hts _ lkX3_flip_1) (fun _ h9 => h9) rfl (by decide +kernel) rfl rfl (Nat.le_of_ble_eq_true rfl) dX3_flip_56 (fun H locs hP hD hS => ?_)
    have hP : va_P D vwCl [(h_st, .inr (3, [.int tcl, .int (tea ^^^ ((1 : Int32) <<< (p1 &&& 31))), .int ton]))] H := hP
    have hD : va_D A [(h_st, .inr (3, [.int tcl, .int (tea ^^^ ((1 : Int32) <<< (p1 &&& 31))), .int ton]))] := hD
    refine lv_goto (tgt := 72) hx hb dX3_flip_59 (by decide) ?_
    cases h
    rw [hQQ]
    exact W.vret hx hb hr (fun t ht hW => ⟨rfl, by rw [ht]; exact hP, hD, hS.F ht⟩) hS.2.2 dX3_flip_72
  have h := it_f h c4
  have ec1 := lv_neT c1 (a := 0) (by decide)
  have ec2 := lv_neT c2 (a := 1) (by decide)
  have ec3 := lv_neT c3 (a := 2) (by decide)
  have ec4 := lv_neT c4 (a := 3) (by decide)
  refine lv_tableOut (tgt := 62) hx hb dX3_flip_5 (by omega) (by decide) ?_
  refine lv_aload_n hx hb dX3_flip_62 rfl (lv_at hl 1 rfl) ?_
  refine lv_dup hx hb dX3_flip_63 rfl ?_
  refine va_get (D := D) (ci := 3) (v := .int ton) (C := RX3) (T := TX3) (N := 3) hx hb hts inX3_flip_X3 hown hK hP 0 rfl rfl 2 (by decide) (hts _ lkX3_flip_2) (fun _ h9 => h9) rfl dX3_flip_64 ?_
  refine lv_iload_n hx hb dX3_flip_67 rfl (lv_at hl 0 rfl) ?_
  refine lv_ixor hx hb dX3_flip_68 ?_
  refine va_put (D := D) (ci := 3) (v := .int (ton ^^^ ((1 : Int32) <<< (p1 &&& 31)))) (ty := .int) (C := RX3) (T := TX3) (N := 3) hx hb hts inX3_flip_X3 tyX3 tyX3_ok nmX3 hown hK hP hD hS 0 rfl rfl 2 (by decide) (hts _ lkX3_flip_2) (fun _ h9 => h9) rfl (by decide +kernel) rfl rfl (Nat.le_of_ble_eq_true rfl) dX3_flip_69 (fun H locs hP hD hS => ?_)
  have hP : va_P D vwCl [(h_st, .inr (3, [.int tcl, .int tea, .int (ton ^^^ ((1 : Int32) <<< (p1 &&& 31)))]))] H := hP
  have hD : va_D A [(h_st, .inr (3, [.int tcl, .int tea, .int (ton ^^^ ((1 : Int32) <<< (p1 &&& 31)))]))] := hD
  cases h
  rw [hQQ]
  exact W.vret hx hb hr (fun t ht hW => ⟨rfl, by rw [ht]; exact hP, hD, hS.F ht⟩) hS.2.2 dX3_flip_72

def fX3_copyFrom (N : Nat) (tcl : Int32) (tea : Int32) (ton : Int32) (ucl : Int32) (uea : Int32) (uon : Int32) : Option ((Int32) × (Int32) × (Int32)) :=
  some (ucl, uea, uon)
set_option maxRecDepth 100000 in
theorem inX3_copyFrom_X3 : ∀ w ∈ wsX30, w ∈ wsX3_copyFrom := by decide +kernel
set_option maxRecDepth 100000 in
theorem lkX3_copyFrom_0 : (.fieldLink RX3 9 "Switchlog$State" "closed" "I" : Cond) ∈ wsX3_copyFrom := by decide +kernel
set_option maxRecDepth 100000 in
theorem lkX3_copyFrom_1 : (.fieldLink RX3 15 "Switchlog$State" "earths" "I" : Cond) ∈ wsX3_copyFrom := by decide +kernel
set_option maxRecDepth 100000 in
theorem lkX3_copyFrom_2 : (.fieldLink RX3 18 "Switchlog$State" "sources" "I" : Cond) ∈ wsX3_copyFrom := by decide +kernel
abbrev rmX3_copyFrom : Room := { frames := 0, cells := 0, slots := 0, locals := 0 }
set_option maxHeartbeats 4000000 in
set_option maxRecDepth 100000 in
theorem kX3_copyFrom (l : Launch) (D : va_G) (cI cZ cL : ClassId) (sz0 : Nat) (h_st h_oth_st : Nat) (tcl : Int32) (tea : Int32) (ton : Int32) (ucl : Int32) (uea : Int32) (uon : Int32)  (N : Nat) {r_0 : Int32} {r_1 : Int32} {r_2 : Int32} (h : fX3_copyFrom N tcl tea ton ucl uea uon  = some (r_0, r_1, r_2)) : Met l yX3_copyFrom wsX3_copyFrom rmX3_copyFrom (PM D cI cZ cL [.ref h_st, .ref h_oth_st] [(h_st, .inr (3, [.int tcl, .int tea, .int ton])), (h_oth_st, .inr (3, [.int ucl, .int uea, .int uon]))] sz0) (QM D none (va_A [(h_st, .inr (3, [.int tcl, .int tea, .int ton])), (h_oth_st, .inr (3, [.int ucl, .int uea, .int uon]))] sz0) [(h_st, .inr (3, [.int r_0, .int r_1, .int r_2])), (h_oth_st, .inr (3, [.int ucl, .int uea, .int uon]))]) 0 0 (va_A [(h_st, .inr (3, [.int tcl, .int tea, .int ton])), (h_oth_st, .inr (3, [.int ucl, .int uea, .int uon]))] sz0) := by
  refine Met.ofW (cc := cX3_copyFrom) (maxL := 2) (ret := none) (by decide) rfl ?_
  intro p e s m args below meth c s₁ B hml hv
  obtain ⟨rfl, hsz, hP, hKK, hD0⟩ := hv
  have hK := hKK.1
  have hx := B.exec
  have hb := B.bytes
  have hr := B.returns
  have hts := atoms_spec (ws := wsX3_copyFrom) B.pre
  have hown : s.vm.findClass RX3 = some m.cls := findClass_of_methodNamed B.named
  have hlocks := B.notSynchronized
  subst hsz
  have hD := hD0.self (sz := s.heap.size)
  generalize hAe : va_A [(h_st, .inr (3, [.int tcl, .int tea, .int ton])), (h_oth_st, .inr (3, [.int ucl, .int uea, .int uon]))] s.heap.size = A at hD ⊢
  have hA : ∀ q : Nat, s.heap.size ≤ q → A q := fun q h => by rw [← hAe]; exact Or.inr h
  have hS : va_S A s.heap s.heap [] := va_S.rf
  have hl := lv_entry ([.ref h_st, .ref h_oth_st]) (n := 2) (Nat.le_of_ble_eq_true rfl)
  rw [lg_entry_eq]
  generalize (lg_sl ([.ref h_st, .ref h_oth_st]) ++ List.replicate (2 - (lg_sl ([.ref h_st, .ref h_oth_st])).length) Slot.unset).toArray = ls at hl ⊢
  have hl : lv_has ls 2 [(0, .ref h_st), (1, .ref h_oth_st)] := hl
  obtain ⟨QQ, hQQ⟩ : ∃ Z, Z = MQ below (QM D none A [(h_st, .inr (3, [.int r_0, .int r_1, .int r_2])), (h_oth_st, .inr (3, [.int ucl, .int uea, .int uon]))]) ([.ref h_st, .ref h_oth_st] : List Value).toArray s 0 0 A := ⟨_, rfl⟩
  rw [← hQQ]
  obtain ⟨H, locs, hHe, hLe⟩ : ∃ (H : Heap) (locs : List Loc), H = s.heap ∧ locs = [] := ⟨_, _, rfl, rfl⟩
  have hP : va_P D vwCl [(h_st, .inr (3, [.int tcl, .int tea, .int ton])), (h_oth_st, .inr (3, [.int ucl, .int uea, .int uon]))] H := by rw [hHe]; exact hP
  have hS : va_S A s.heap H locs := by rw [hHe, hLe]; exact hS
  have hW0 : ∀ QQ : State → Prop, W p l e (headSpec wsX3_copyFrom rmX3_copyFrom).room s m (([.ref h_st, .ref h_oth_st] : List Value).toArray) below meth c H locs 0 0 QQ (F0 m 0 ls []) → W p l e (headSpec wsX3_copyFrom rmX3_copyFrom).room s m (([.ref h_st, .ref h_oth_st] : List Value).toArray) below meth c s.heap [] 0 0 QQ (F0 m 0 ls []) := by rw [hHe, hLe]; exact fun _ h => h
  refine hW0 _ ?_
  clear hW0
  unfold fX3_copyFrom at h
  refine lv_aload_n hx hb dX3_copyFrom_0 rfl (lv_at hl 0 rfl) ?_
  refine lv_aload_n hx hb dX3_copyFrom_1 rfl (lv_at hl 1 rfl) ?_
  refine va_get (D := D) (ci := 3) (v := .int ucl) (C := RX3) (T := TX3) (N := 3) hx hb hts inX3_copyFrom_X3 hown hK hP 1 rfl rfl 0 (by decide) (hts _ lkX3_copyFrom_0) (fun _ h9 => h9) rfl dX3_copyFrom_2 ?_
  refine va_put (D := D) (ci := 3) (v := .int ucl) (ty := .int) (C := RX3) (T := TX3) (N := 3) hx hb hts inX3_copyFrom_X3 tyX3 tyX3_ok nmX3 hown hK hP hD hS 0 rfl rfl 0 (by decide) (hts _ lkX3_copyFrom_0) (fun _ h9 => h9) rfl (by decide +kernel) rfl rfl (Nat.le_of_ble_eq_true rfl) dX3_copyFrom_5 (fun H locs hP hD hS => ?_)
  have hP : va_P D vwCl [(h_st, .inr (3, [.int ucl, .int tea, .int ton])), (h_oth_st, .inr (3, [.int ucl, .int uea, .int uon]))] H := hP
  have hD : va_D A [(h_st, .inr (3, [.int ucl, .int tea, .int ton])), (h_oth_st, .inr (3, [.int ucl, .int uea, .int uon]))] := hD
  refine lv_aload_n hx hb dX3_copyFrom_8 rfl (lv_at hl 0 rfl) ?_
  refine lv_aload_n hx hb dX3_copyFrom_9 rfl (lv_at hl 1 rfl) ?_
  refine va_get (D := D) (ci := 3) (v := .int uea) (C := RX3) (T := TX3) (N := 3) hx hb hts inX3_copyFrom_X3 hown hK hP 1 rfl rfl 1 (by decide) (hts _ lkX3_copyFrom_1) (fun _ h9 => h9) rfl dX3_copyFrom_10 ?_
  refine va_put (D := D) (ci := 3) (v := .int uea) (ty := .int) (C := RX3) (T := TX3) (N := 3) hx hb hts inX3_copyFrom_X3 tyX3 tyX3_ok nmX3 hown hK hP hD hS 0 rfl rfl 1 (by decide) (hts _ lkX3_copyFrom_1) (fun _ h9 => h9) rfl (by decide +kernel) rfl rfl (Nat.le_of_ble_eq_true rfl) dX3_copyFrom_13 (fun H locs hP hD hS => ?_)
  have hP : va_P D vwCl [(h_st, .inr (3, [.int ucl, .int uea, .int ton])), (h_oth_st, .inr (3, [.int ucl, .int uea, .int uon]))] H := hP
  have hD : va_D A [(h_st, .inr (3, [.int ucl, .int uea, .int ton])), (h_oth_st, .inr (3, [.int ucl, .int uea, .int uon]))] := hD
  refine lv_aload_n hx hb dX3_copyFrom_16 rfl (lv_at hl 0 rfl) ?_
  refine lv_aload_n hx hb dX3_copyFrom_17 rfl (lv_at hl 1 rfl) ?_
  refine va_get (D := D) (ci := 3) (v := .int uon) (C := RX3) (T := TX3) (N := 3) hx hb hts inX3_copyFrom_X3 hown hK hP 1 rfl rfl 2 (by decide) (hts _ lkX3_copyFrom_2) (fun _ h9 => h9) rfl dX3_copyFrom_18 ?_
  refine va_put (D := D) (ci := 3) (v := .int uon) (ty := .int) (C := RX3) (T := TX3) (N := 3) hx hb hts inX3_copyFrom_X3 tyX3 tyX3_ok nmX3 hown hK hP hD hS 0 rfl rfl 2 (by decide) (hts _ lkX3_copyFrom_2) (fun _ h9 => h9) rfl (by decide +kernel) rfl rfl (Nat.le_of_ble_eq_true rfl) dX3_copyFrom_21 (fun H locs hP hD hS => ?_)
  have hP : va_P D vwCl [(h_st, .inr (3, [.int ucl, .int uea, .int uon])), (h_oth_st, .inr (3, [.int ucl, .int uea, .int uon]))] H := hP
  have hD : va_D A [(h_st, .inr (3, [.int ucl, .int uea, .int uon])), (h_oth_st, .inr (3, [.int ucl, .int uea, .int uon]))] := hD
  cases h
  rw [hQQ]
  exact W.vret hx hb hr (fun t ht hW => ⟨rfl, by rw [ht]; exact hP, hD, hS.F ht⟩) hS.2.2 dX3_copyFrom_24
