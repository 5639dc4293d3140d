def fX5_in (N : Nat)  (p0 : Int32) (p1 : Int32) (p2 : Int32) : Option ((Int32)) :=
  (if p0 < p1 then some 0 else (if p2 < p0 then some 0 else some 1))
abbrev rmX5_in : Room := { frames := 0, cells := 0, slots := 0, locals := 0 }
set_option maxHeartbeats 4000000 in
set_option maxRecDepth 100000 in
theorem kX5_in (l : Launch) (D : va_G) (cI cZ cL : ClassId)  (p0 : Int32) (p1 : Int32) (p2 : Int32) (N : Nat) {r : Int32} (h : fX5_in N  p0 p1 p2 = some r) : Met l yX5_in wsX5_in rmX5_in (PR D cI cZ cL [.int p0, .int p1, .int p2] []) (vp_Si (fun z => z = r)) 0 0 (fun _ => False) := by
  refine Met.ofW (cc := cX5_in) (maxL := 3) (ret := (some .boolean)) (by decide) rfl ?_
  intro p e s m args below meth c s₁ B hml hv
  obtain ⟨rfl, hP, hKK⟩ := hv
  have hK := hKK.1
  have hx := B.exec
  have hb := B.bytes
  have hr := B.returns
  have hts := atoms_spec (ws := wsX5_in) B.pre
  have hown : s.vm.findClass RX5 = some m.cls := findClass_of_methodNamed B.named
  have hlocks := B.notSynchronized
  have hl := lv_entry ([.int p0, .int p1, .int p2]) (n := 3) (Nat.le_of_ble_eq_true rfl)
  rw [lg_entry_eq]
  generalize (lg_sl ([.int p0, .int p1, .int p2]) ++ List.replicate (3 - (lg_sl ([.int p0, .int p1, .int p2])).length) Slot.unset).toArray = ls at hl ⊢
  have hl : lv_has ls 3 [(0, .int p0), (1, .int p1), (2, .int p2)] := hl
  obtain ⟨QQ, hQQ⟩ : ∃ Z, Z = MQ below (vp_Si (fun z => z = r)) ([.int p0, .int p1, .int p2] : List Value).toArray s 0 0 (fun _ => False) := ⟨_, rfl⟩
  rw [← hQQ]
  unfold fX5_in at h
  refine lv_iload_n hx hb dX5_in_0 rfl (lv_at hl 0 rfl) ?_
  refine lv_iload_n hx hb dX5_in_1 rfl (lv_at hl 1 rfl) ?_
  refine lv_icmp_lt (tgt := 14) hx hb dX5_in_2 (by decide) (fun c1 => ?_) (fun c1 => ?_)
  · have h := it_t h c1
    refine lv_iconst (v := 0) hx hb dX5_in_14 (by decide) ?_
    rw [hQQ]
    exact W.zret (v := 0) hx hb hr (by decide) (fun t ht hW => ⟨_, rfl, Option.some.inj h, ht⟩) (fun q hq => absurd hq List.not_mem_nil) dX5_in_15
  · have h := it_f h c1
    refine lv_iload_n hx hb dX5_in_5 rfl (lv_at hl 0 rfl) ?_
    refine lv_iload_n hx hb dX5_in_6 rfl (lv_at hl 2 rfl) ?_
    refine lv_icmp_gt (tgt := 14) hx hb dX5_in_7 (by decide) (fun c2 => ?_) (fun c2 => ?_)
    · have h := it_t h c2
      refine lv_iconst (v := 0) hx hb dX5_in_14 (by decide) ?_
      rw [hQQ]
      exact W.zret (v := 0) hx hb hr (by decide) (fun t ht hW => ⟨_, rfl, Option.some.inj h, ht⟩) (fun q hq => absurd hq List.not_mem_nil) dX5_in_15
    · have h := it_f h c2
      refine lv_iconst (v := 1) hx hb dX5_in_10 (by decide) ?_
      refine lv_goto (tgt := 15) hx hb dX5_in_11 (by decide) ?_
      rw [hQQ]
      exact W.zret (v := 1) hx hb hr (by decide) (fun t ht hW => ⟨_, rfl, Option.some.inj h, ht⟩) (fun q hq => absurd hq List.not_mem_nil) dX5_in_15

def fX5_has (N : Nat)  (p0 : Int32) (p1 : Int32) : Option ((Int32)) :=
  (if ((p0 >>> (p1 &&& 31)) &&& 1) = 1 then some 1 else some 0)
abbrev rmX5_has : Room := { frames := 0, cells := 0, slots := 0, locals := 0 }
set_option maxHeartbeats 4000000 in
set_option maxRecDepth 100000 in
theorem kX5_has (l : Launch) (D : va_G) (cI cZ cL : ClassId)  (p0 : Int32) (p1 : Int32) (N : Nat) {r : Int32} (h : fX5_has N  p0 p1 = some r) : Met l yX5_has wsX5_has rmX5_has (PR D cI cZ cL [.int p0, .int p1] []) (vp_Si (fun z => z = r)) 0 0 (fun _ => False) := by
  refine Met.ofW (cc := cX5_has) (maxL := 2) (ret := (some .boolean)) (by decide) rfl ?_
  intro p e s m args below meth c s₁ B hml hv
  obtain ⟨rfl, hP, hKK⟩ := hv
  have hK := hKK.1
  have hx := B.exec
  have hb := B.bytes
  have hr := B.returns
  have hts := atoms_spec (ws := wsX5_has) B.pre
  have hown : s.vm.findClass RX5 = some m.cls := findClass_of_methodNamed B.named
  have hlocks := B.notSynchronized
  have hl := lv_entry ([.int p0, .int p1]) (n := 2) (Nat.le_of_ble_eq_true rfl)
  rw [lg_entry_eq]
  generalize (lg_sl ([.int p0, .int p1]) ++ List.replicate (2 - (lg_sl ([.int p0, .int p1])).length) Slot.unset).toArray = ls at hl ⊢
  have hl : lv_has ls 2 [(0, .int p0), (1, .int p1)] := hl
  obtain ⟨QQ, hQQ⟩ : ∃ Z, Z = MQ below (vp_Si (fun z => z = r)) ([.int p0, .int p1] : List Value).toArray s 0 0 (fun _ => False) := ⟨_, rfl⟩
  rw [← hQQ]
  unfold fX5_has at h
  refine lv_iload_n hx hb dX5_has_0 rfl (lv_at hl 0 rfl) ?_
  refine lv_iload_n hx hb dX5_has_1 rfl (lv_at hl 1 rfl) ?_
  refine lv_ishr hx hb dX5_has_2 ?_
  refine lv_iconst (v := 1) hx hb dX5_has_3 (by decide) ?_
  refine lv_iand hx hb dX5_has_4 ?_
  refine lv_iconst (v := 1) hx hb dX5_has_5 (by decide) ?_
  refine lv_icmp_ne (tgt := 13) hx hb dX5_has_6 (by decide) (fun c1 => ?_) (fun c1 => ?_)
  · have h := it_f h c1
    refine lv_iconst (v := 0) hx hb dX5_has_13 (by decide) ?_
    rw [hQQ]
    exact W.zret (v := 0) hx hb hr (by decide) (fun t ht hW => ⟨_, rfl, Option.some.inj h, ht⟩) (fun q hq => absurd hq List.not_mem_nil) dX5_has_14
  · have h := it_t h c1
    refine lv_iconst (v := 1) hx hb dX5_has_9 (by decide) ?_
    refine lv_goto (tgt := 14) hx hb dX5_has_10 (by decide) ?_
    rw [hQQ]
    exact W.zret (v := 1) hx hb hr (by decide) (fun t ht hW => ⟨_, rfl, Option.some.inj h, ht⟩) (fun q hq => absurd hq List.not_mem_nil) dX5_has_14

def fX5_opposite (N : Nat)  (p0 : Int32) : Option ((Int32)) :=
  (if ((p0 / 100) - (p0 / 100) / 2 * 2) = 0 then some (p0 + 100) else some (p0 - 100))
abbrev rmX5_opposite : Room := { frames := 0, cells := 0, slots := 0, locals := 0 }
set_option maxHeartbeats 4000000 in
set_option maxRecDepth 100000 in
theorem kX5_opposite (l : Launch) (D : va_G) (cI cZ cL : ClassId)  (p0 : Int32) (N : Nat) {r : Int32} (h : fX5_opposite N  p0 = some r) : Met l yX5_opposite wsX5_opposite rmX5_opposite (PR D cI cZ cL [.int p0] []) (vp_Si (fun z => z = r)) 0 0 (fun _ => False) := by
  refine Met.ofW (cc := cX5_opposite) (maxL := 1) (ret := (some .int)) (by decide) rfl ?_
  intro p e s m args below meth c s₁ B hml hv
  obtain ⟨rfl, hP, hKK⟩ := hv
  have hK := hKK.1
  have hx := B.exec
  have hb := B.bytes
  have hr := B.returns
  have hts := atoms_spec (ws := wsX5_opposite) B.pre
  have hown : s.vm.findClass RX5 = some m.cls := findClass_of_methodNamed B.named
  have hlocks := B.notSynchronized
  have hl := lv_entry ([.int p0]) (n := 1) (Nat.le_of_ble_eq_true rfl)
  rw [lg_entry_eq]
  generalize (lg_sl ([.int p0]) ++ List.replicate (1 - (lg_sl ([.int p0])).length) Slot.unset).toArray = ls at hl ⊢
  have hl : lv_has ls 1 [(0, .int p0)] := hl
  obtain ⟨QQ, hQQ⟩ : ∃ Z, Z = MQ below (vp_Si (fun z => z = r)) ([.int p0] : List Value).toArray s 0 0 (fun _ => False) := ⟨_, rfl⟩
  rw [← hQQ]
  unfold fX5_opposite at h
  refine lv_iload_n hx hb dX5_opposite_0 rfl (lv_at hl 0 rfl) ?_
  refine lv_bipush (v := 100) hx hb dX5_opposite_1 (by decide) ?_
  refine lv_idiv hx hb dX5_opposite_3 (by decide) ?_
  refine lv_iconst (v := 2) hx hb dX5_opposite_4 (by decide) ?_
  refine lv_irem hx hb dX5_opposite_5 (by decide) ?_
  refine lv_if_ne (tgt := 16) hx hb dX5_opposite_6 (by decide) (fun c1 => ?_) (fun c1 => ?_)
  · have h := it_f h c1
    refine lv_iload_n hx hb dX5_opposite_16 rfl (lv_at hl 0 rfl) ?_
    refine lv_bipush (v := 100) hx hb dX5_opposite_17 (by decide) ?_
    refine lv_isub hx hb dX5_opposite_19 ?_
    rw [hQQ]
    exact W.iret (v := p0 - 100) hx hb hr (fun t ht hW => ⟨_, rfl, Option.some.inj h, ht⟩) (fun q hq => absurd hq List.not_mem_nil) dX5_opposite_20
  · have h := it_t h c1
    refine lv_iload_n hx hb dX5_opposite_9 rfl (lv_at hl 0 rfl) ?_
    refine lv_bipush (v := 100) hx hb dX5_opposite_10 (by decide) ?_
    refine lv_iadd hx hb dX5_opposite_12 ?_
    refine lv_goto (tgt := 20) hx hb dX5_opposite_13 (by decide) ?_
    rw [hQQ]
    exact W.iret (v := p0 + 100) hx hb hr (fun t ht hW => ⟨_, rfl, Option.some.inj h, ht⟩) (fun q hq => absurd hq List.not_mem_nil) dX5_opposite_20

def fX5_thrown (N : Nat) (th : Int32) (nd : Int32) (sw : Int32) (so : Int32) (lo : Int32) (cl : Int32) (ea : Int32) (on : Int32) (lg : Int32) (wr : Int32) (pe : Int32) : Option ((Int32)) :=
  some th
set_option maxRecDepth 100000 in
theorem inX5_thrown_X5 : ∀ w ∈ wsX50, w ∈ wsX5_thrown := by decide +kernel
set_option maxRecDepth 100000 in
theorem lkX5_thrown_0 : (.fieldLink RX5 35 "SwitchlogModel" "thrown" "I" : Cond) ∈ wsX5_thrown := by decide +kernel
abbrev rmX5_thrown : Room := { frames := 0, cells := 0, slots := 0, locals := 0 }
set_option maxHeartbeats 4000000 in
set_option maxRecDepth 100000 in
theorem kX5_thrown (l : Launch) (D : va_G) (cI cZ cL : ClassId) (h_m a_one a_oth a_isb a_log a_seq a_mho a_mih a_far : Nat) (th : Int32) (nd : Int32) (sw : Int32) (so : Int32) (lo : Int32) (cl : Int32) (ea : Int32) (on : Int32) (lg : Int32) (wr : Int32) (pe : Int32)  (N : Nat) {r : Int32} (h : fX5_thrown N th nd sw so lo cl ea on lg wr pe  = some r) : Met l yX5_thrown wsX5_thrown rmX5_thrown (PR D cI cZ cL [.ref h_m] [(h_m, .inr (5, [.int th, .int nd, .int sw, .int so, .int lo, .ref a_one, .ref a_oth, .ref a_isb, .int cl, .int ea, .int on, .int lg, .ref a_log, .int wr, .ref a_seq, .int pe, .ref a_mho, .ref a_mih, .ref a_far]))]) (vp_Si (fun z => z = r)) 0 0 (fun _ => False) := by
  refine Met.ofW (cc := cX5_thrown) (maxL := 1) (ret := (some .int)) (by decide) rfl ?_
  intro p e s m args below meth c s₁ B hml hv
  obtain ⟨rfl, hP, hKK⟩ := hv
  have hK := hKK.1
  have hx := B.exec
  have hb := B.bytes
  have hr := B.returns
  have hts := atoms_spec (ws := wsX5_thrown) B.pre
  have hown : s.vm.findClass RX5 = some m.cls := findClass_of_methodNamed B.named
  have hlocks := B.notSynchronized
  have hl := lv_entry ([.ref h_m]) (n := 1) (Nat.le_of_ble_eq_true rfl)
  rw [lg_entry_eq]
  generalize (lg_sl ([.ref h_m]) ++ List.replicate (1 - (lg_sl ([.ref h_m])).length) Slot.unset).toArray = ls at hl ⊢
  have hl : lv_has ls 1 [(0, .ref h_m)] := hl
  obtain ⟨QQ, hQQ⟩ : ∃ Z, Z = MQ below (vp_Si (fun z => z = r)) ([.ref h_m] : List Value).toArray s 0 0 (fun _ => False) := ⟨_, rfl⟩
  rw [← hQQ]
  unfold fX5_thrown at h
  refine lv_aload_n hx hb dX5_thrown_0 rfl (lv_at hl 0 rfl) ?_
  refine va_get (D := D) (ci := 5) (v := .int th) (C := RX5) (T := TX5) (N := 19) hx hb hts inX5_thrown_X5 hown hK hP 0 rfl rfl 0 (by decide) (hts _ lkX5_thrown_0) (fun _ h9 => h9) rfl dX5_thrown_1 ?_
  rw [hQQ]
  exact W.iret (v := th) hx hb hr (fun t ht hW => ⟨_, rfl, Option.some.inj h, ht⟩) (fun q hq => absurd hq List.not_mem_nil) dX5_thrown_4

def fX5_isNode (N : Nat) (th : Int32) (nd : Int32) (sw : Int32) (so : Int32) (lo : Int32) (cl : Int32) (ea : Int32) (on : Int32) (lg : Int32) (wr : Int32) (pe : Int32) (p0 : Int32) : Option ((Int32)) :=
  bd1 (fX5_in N  p0 0 (nd - 1)) (fun v1 => gd (bz v1) (some v1))
set_option maxRecDepth 100000 in
theorem inX5_isNode_X5 : ∀ w ∈ wsX50, w ∈ wsX5_isNode := by decide +kernel
set_option maxRecDepth 100000 in
theorem lkX5_isNode_0 : (.fieldLink RX5 39 "SwitchlogModel" "nodes" "I" : Cond) ∈ wsX5_isNode := by decide +kernel
abbrev rmX5_isNode : Room := { frames := 1, cells := 0, slots := 0, locals := 22 }
set_option maxHeartbeats 4000000 in
set_option maxRecDepth 100000 in
theorem kX5_isNode (l : Launch) (D : va_G) (cI cZ cL : ClassId) (h_m a_one a_oth a_isb a_log a_seq a_mho a_mih a_far : Nat) (th : Int32) (nd : Int32) (sw : Int32) (so : Int32) (lo : Int32) (cl : Int32) (ea : Int32) (on : Int32) (lg : Int32) (wr : Int32) (pe : Int32) (p0 : Int32) (N : Nat) {r : Int32} (h : fX5_isNode N th nd sw so lo cl ea on lg wr pe p0 = some r) : Met l yX5_isNode wsX5_isNode rmX5_isNode (PR D cI cZ cL [.ref h_m, .int p0] [(h_m, .inr (5, [.int th, .int nd, .int sw, .int so, .int lo, .ref a_one, .ref a_oth, .ref a_isb, .int cl, .int ea, .int on, .int lg, .ref a_log, .int wr, .ref a_seq, .int pe, .ref a_mho, .ref a_mih, .ref a_far]))]) (vp_Si (fun z => z = r)) 0 0 (fun _ => False) := by
  refine Met.ofW (cc := cX5_isNode) (maxL := 2) (ret := (some .boolean)) (by decide) rfl ?_
  intro p e s m args below meth c s₁ B hml hv
  obtain ⟨rfl, hP, hKK⟩ := hv
  have hK := hKK.1
  have hx := B.exec
  have hb := B.bytes
  have hr := B.returns
  have hts := atoms_spec (ws := wsX5_isNode) B.pre
  have hown : s.vm.findClass RX5 = some m.cls := findClass_of_methodNamed B.named
  have hlocks := B.notSynchronized
  have hl := lv_entry ([.ref h_m, .int p0]) (n := 2) (Nat.le_of_ble_eq_true rfl)
  rw [lg_entry_eq]
  generalize (lg_sl ([.ref h_m, .int p0]) ++ List.replicate (2 - (lg_sl ([.ref h_m, .int p0])).length) Slot.unset).toArray = ls at hl ⊢
  have hl : lv_has ls 2 [(0, .ref h_m), (1, .int p0)] := hl
  obtain ⟨QQ, hQQ⟩ : ∃ Z, Z = MQ below (vp_Si (fun z => z = r)) ([.ref h_m, .int p0] : List Value).toArray s 0 0 (fun _ => False) := ⟨_, rfl⟩
  rw [← hQQ]
  unfold fX5_isNode at h
  refine lv_iload_n hx hb dX5_isNode_0 rfl (lv_at hl 1 rfl) ?_
  refine lv_iconst (v := 0) hx hb dX5_isNode_1 (by decide) ?_
  refine lv_aload_n hx hb dX5_isNode_2 rfl (lv_at hl 0 rfl) ?_
  refine va_get (D := D) (ci := 5) (v := .int nd) (C := RX5) (T := TX5) (N := 19) hx hb hts inX5_isNode_X5 hown hK hP 0 rfl rfl 1 (by decide) (hts _ lkX5_isNode_0) (fun _ h9 => h9) rfl dX5_isNode_3 ?_
  refine lv_iconst (v := 1) hx hb dX5_isNode_6 (by decide) ?_
  refine lv_isub hx hb dX5_isNode_7 ?_
  obtain ⟨v1, hq2, h⟩ := bd1_e h
  refine zz_cS (As := [.int p0, .int 0, .int (nd - 1)]) ⟨hx, hb, hml, hown, hts⟩ (kX5_in l D cI cZ cL p0 0 (nd - 1) N hq2) (va_cwS 3 hts gX5_isNode_X5_in rfl rfl rfl (by decide +kernel) ⟨Nat.le_of_ble_eq_true rfl, Nat.le_of_ble_eq_true rfl⟩) (hP.sub (ws' := []) [] rfl) hKK rfl hl.1 rfl (Nat.le_of_ble_eq_true rfl) dX5_isNode_8 ⟨Nat.le_of_ble_eq_true rfl, Nat.le_of_ble_eq_true rfl⟩ ?_
  obtain ⟨hz, h⟩ := gd_e h
  rw [hQQ]
  exact W.zret (v := v1) hx hb hr (bz_e hz) (fun t ht hW => ⟨_, rfl, Option.some.inj h, ht⟩) (fun q hq => absurd hq List.not_mem_nil) dX5_isNode_11

def fX5_isSwitch (N : Nat) (th : Int32) (nd : Int32) (sw : Int32) (so : Int32) (lo : Int32) (cl : Int32) (ea : Int32) (on : Int32) (lg : Int32) (wr : Int32) (pe : Int32) (p0 : Int32) : Option ((Int32)) :=
  bd1 (fX5_in N  p0 0 (sw - 1)) (fun v1 => gd (bz v1) (some v1))
set_option maxRecDepth 100000 in
theorem inX5_isSwitch_X5 : ∀ w ∈ wsX50, w ∈ wsX5_isSwitch := by decide +kernel
set_option maxRecDepth 100000 in
theorem lkX5_isSwitch_0 : (.fieldLink RX5 46 "SwitchlogModel" "switches" "I" : Cond) ∈ wsX5_isSwitch := by decide +kernel
abbrev rmX5_isSwitch : Room := { frames := 1, cells := 0, slots := 0, locals := 22 }
set_option maxHeartbeats 4000000 in
set_option maxRecDepth 100000 in
theorem kX5_isSwitch (l : Launch) (D : va_G) (cI cZ cL : ClassId) (h_m a_one a_oth a_isb a_log a_seq a_mho a_mih a_far : Nat) (th : Int32) (nd : Int32) (sw : Int32) (so : Int32) (lo : Int32) (cl : Int32) (ea : Int32) (on : Int32) (lg : Int32) (wr : Int32) (pe : Int32) (p0 : Int32) (N : Nat) {r : Int32} (h : fX5_isSwitch N th nd sw so lo cl ea on lg wr pe p0 = some r) : Met l yX5_isSwitch wsX5_isSwitch rmX5_isSwitch (PR D cI cZ cL [.ref h_m, .int p0] [(h_m, .inr (5, [.int th, .int nd, .int sw, .int so, .int lo, .ref a_one, .ref a_oth, .ref a_isb, .int cl, .int ea, .int on, .int lg, .ref a_log, .int wr, .ref a_seq, .int pe, .ref a_mho, .ref a_mih, .ref a_far]))]) (vp_Si (fun z => z = r)) 0 0 (fun _ => False) := by
  refine Met.ofW (cc := cX5_isSwitch) (maxL := 2) (ret := (some .boolean)) (by decide) rfl ?_
  intro p e s m args below meth c s₁ B hml hv
  obtain ⟨rfl, hP, hKK⟩ := hv
  have hK := hKK.1
  have hx := B.exec
  have hb := B.bytes
  have hr := B.returns
  have hts := atoms_spec (ws := wsX5_isSwitch) B.pre
  have hown : s.vm.findClass RX5 = some m.cls := findClass_of_methodNamed B.named
  have hlocks := B.notSynchronized
  have hl := lv_entry ([.ref h_m, .int p0]) (n := 2) (Nat.le_of_ble_eq_true rfl)
  rw [lg_entry_eq]
  generalize (lg_sl ([.ref h_m, .int p0]) ++ List.replicate (2 - (lg_sl ([.ref h_m, .int p0])).length) Slot.unset).toArray = ls at hl ⊢
  have hl : lv_has ls 2 [(0, .ref h_m), (1, .int p0)] := hl
  obtain ⟨QQ, hQQ⟩ : ∃ Z, Z = MQ below (vp_Si (fun z => z = r)) ([.ref h_m, .int p0] : List Value).toArray s 0 0 (fun _ => False) := ⟨_, rfl⟩
  rw [← hQQ]
  unfold fX5_isSwitch at h
  refine lv_iload_n hx hb dX5_isSwitch_0 rfl (lv_at hl 1 rfl) ?_
  refine lv_iconst (v := 0) hx hb dX5_isSwitch_1 (by decide) ?_
  refine lv_aload_n hx hb dX5_isSwitch_2 rfl (lv_at hl 0 rfl) ?_
  refine va_get (D := D) (ci := 5) (v := .int sw) (C := RX5) (T := TX5) (N := 19) hx hb hts inX5_isSwitch_X5 hown hK hP 0 rfl rfl 2 (by decide) (hts _ lkX5_isSwitch_0) (fun _ h9 => h9) rfl dX5_isSwitch_3 ?_
  refine lv_iconst (v := 1) hx hb dX5_isSwitch_6 (by decide) ?_
  refine lv_isub hx hb dX5_isSwitch_7 ?_
  obtain ⟨v1, hq2, h⟩ := bd1_e h
  refine zz_cS (As := [.int p0, .int 0, .int (sw - 1)]) ⟨hx, hb, hml, hown, hts⟩ (kX5_in l D cI cZ cL p0 0 (sw - 1) N hq2) (va_cwS 3 hts gX5_isSwitch_X5_in rfl rfl rfl (by decide +kernel) ⟨Nat.le_of_ble_eq_true rfl, Nat.le_of_ble_eq_true rfl⟩) (hP.sub (ws' := []) [] rfl) hKK rfl hl.1 rfl (Nat.le_of_ble_eq_true rfl) dX5_isSwitch_8 ⟨Nat.le_of_ble_eq_true rfl, Nat.le_of_ble_eq_true rfl⟩ ?_
  obtain ⟨hz, h⟩ := gd_e h
  rw [hQQ]
  exact W.zret (v := v1) hx hb hr (bz_e hz) (fun t ht hW => ⟨_, rfl, Option.some.inj h, ht⟩) (fun q hq => absurd hq List.not_mem_nil) dX5_isSwitch_11

def fX5_isReady (N : Nat) (th : Int32) (nd : Int32) (sw : Int32) (so : Int32) (lo : Int32) (cl : Int32) (ea : Int32) (on : Int32) (lg : Int32) (wr : Int32) (pe : Int32) (p0 : Int32) (p1 : Int32) : Option ((Int32)) :=
  (if 2 ≤ p0 then (if 4 ≤ p0 then bd1 (fX5_has N  so p1) (fun v3 => (if v3 = 0 then some 0 else bd1 (fX5_has N  on p1) (fun v6 => (if p0 = 5 then (if v6 = 1 then some 1 else some 0) else (if v6 = 0 then some 1 else some 0))))) else bd1 (fX5_has N  ea p1) (fun v11 => (if p0 = 3 then (if v11 = 1 then some 1 else some 0) else (if v11 = 0 then some 1 else some 0)))) else bd1 (fX5_has N  cl p1) (fun v16 => (if p0 = 0 then (if v16 = 1 then some 1 else some 0) else (if v16 = 0 then some 1 else some 0))))
set_option maxRecDepth 100000 in
theorem inX5_isReady_X5 : ∀ w ∈ wsX50, w ∈ wsX5_isReady := by decide +kernel
set_option maxRecDepth 100000 in
theorem lkX5_isReady_0 : (.fieldLink RX5 49 "SwitchlogModel" "sources" "I" : Cond) ∈ wsX5_isReady := by decide +kernel
set_option maxRecDepth 100000 in
theorem lkX5_isReady_1 : (.fieldLink RX5 67 "SwitchlogModel" "on" "I" : Cond) ∈ wsX5_isReady := by decide +kernel
set_option maxRecDepth 100000 in
theorem lkX5_isReady_2 : (.fieldLink RX5 79 "SwitchlogModel" "earths" "I" : Cond) ∈ wsX5_isReady := by decide +kernel
set_option maxRecDepth 100000 in
theorem lkX5_isReady_3 : (.fieldLink RX5 76 "SwitchlogModel" "closed" "I" : Cond) ∈ wsX5_isReady := by decide +kernel
abbrev rmX5_isReady : Room := { frames := 1, cells := 0, slots := 0, locals := 21 }
set_option maxHeartbeats 4000000 in
set_option maxRecDepth 100000 in
theorem kX5_isReady (l : Launch) (D : va_G) (cI cZ cL : ClassId) (h_m a_one a_oth a_isb a_log a_seq a_mho a_mih a_far : Nat) (th : Int32) (nd : Int32) (sw : Int32) (so : Int32) (lo : Int32) (cl : Int32) (ea : Int32) (on : Int32) (lg : Int32) (wr : Int32) (pe : Int32) (p0 : Int32) (p1 : Int32) (N : Nat) {r : Int32} (h : fX5_isReady N th nd sw so lo cl ea on lg wr pe p0 p1 = some r) : Met l yX5_isReady wsX5_isReady rmX5_isReady (PR D cI cZ cL [.ref h_m, .int p0, .int p1] [(h_m, .inr (5, [.int th, .int nd, .int sw, .int so, .int lo, .ref a_one, .ref a_oth, .ref a_isb, .int cl, .int ea, .int on, .int lg, .ref a_log, .int wr, .ref a_seq, .int pe, .ref a_mho, .ref a_mih, .ref a_far]))]) (vp_Si (fun z => z = r)) 0 0 (fun _ => False) := by
  refine Met.ofW (cc := cX5_isReady) (maxL := 3) (ret := (some .boolean)) (by decide) rfl ?_
  intro p e s m args below meth c s₁ B hml hv
  obtain ⟨rfl, hP, hKK⟩ := hv
  have hK := hKK.1
  have hx := B.exec
  have hb := B.bytes
  have hr := B.returns
  have hts := atoms_spec (ws := wsX5_isReady) B.pre
  have hown : s.vm.findClass RX5 = some m.cls := findClass_of_methodNamed B.named
  have hlocks := B.notSynchronized
  have hl := lv_entry ([.ref h_m, .int p0, .int p1]) (n := 3) (Nat.le_of_ble_eq_true rfl)
  rw [lg_entry_eq]
  generalize (lg_sl ([.ref h_m, .int p0, .int p1]) ++ List.replicate (3 - (lg_sl ([.ref h_m, .int p0, .int p1])).length) Slot.unset).toArray = ls at hl ⊢
  have hl : lv_has ls 3 [(0, .ref h_m), (1, .int p0), (2, .int p1)] := hl
  obtain ⟨QQ, hQQ⟩ : ∃ Z, Z = MQ below (vp_Si (fun z => z = r)) ([.ref h_m, .int p0, .int p1] : List Value).toArray s 0 0 (fun _ => False) := ⟨_, rfl⟩
  rw [← hQQ]
  unfold fX5_isReady at h
  refine lv_iload_n hx hb dX5_isReady_0 rfl (lv_at hl 1 rfl) ?_
  refine lv_iconst (v := 2) hx hb dX5_isReady_1 (by decide) ?_
  refine lv_icmp_ge (tgt := 31) hx hb dX5_isReady_2 (by decide) (fun c1 => ?_) (fun c1 => ?_)
  · have h := it_t h c1
    refine lv_iload_n hx hb dX5_isReady_31 rfl (lv_at hl 1 rfl) ?_
    refine lv_iconst (v := 4) hx hb dX5_isReady_32 (by decide) ?_
    refine lv_icmp_ge (tgt := 63) hx hb dX5_isReady_33 (by decide) (fun c2 => ?_) (fun c2 => ?_)
    · have h := it_t h c2
      refine lv_aload_n hx hb dX5_isReady_63 rfl (lv_at hl 0 rfl) ?_
      refine va_get (D := D) (ci := 5) (v := .int so) (C := RX5) (T := TX5) (N := 19) hx hb hts inX5_isReady_X5 hown hK hP 0 rfl rfl 3 (by decide) (hts _ lkX5_isReady_0) (fun _ h9 => h9) rfl dX5_isReady_64 ?_
      refine lv_iload_n hx hb dX5_isReady_67 rfl (lv_at hl 2 rfl) ?_
      obtain ⟨v3, hq4, h⟩ := bd1_e h
      refine zz_cS (As := [.int so, .int p1]) ⟨hx, hb, hml, hown, hts⟩ (kX5_has l D cI cZ cL so p1 N hq4) (va_cwS 2 hts gX5_isReady_X5_has rfl rfl rfl (by decide +kernel) ⟨Nat.le_of_ble_eq_true rfl, Nat.le_of_ble_eq_true rfl⟩) (hP.sub (ws' := []) [] rfl) hKK rfl hl.1 rfl (Nat.le_of_ble_eq_true rfl) dX5_isReady_68 ⟨Nat.le_of_ble_eq_true rfl, Nat.le_of_ble_eq_true rfl⟩ ?_
      refine lv_if_eq (tgt := 99) hx hb dX5_isReady_71 (by decide) (fun c5 => ?_) (fun c5 => ?_)
      · have h := it_t h c5
        refine lv_iconst (v := 0) hx hb dX5_isReady_99 (by decide) ?_
        rw [hQQ]
        exact W.zret (v := 0) hx hb hr (by decide) (fun t ht hW => ⟨_, rfl, Option.some.inj h, ht⟩) (fun q hq => absurd hq List.not_mem_nil) dX5_isReady_100
      · have h := it_f h c5
        refine lv_aload_n hx hb dX5_isReady_74 rfl (lv_at hl 0 rfl) ?_
        refine va_get (D := D) (ci := 5) (v := .int on) (C := RX5) (T := TX5) (N := 19) hx hb hts inX5_isReady_X5 hown hK hP 0 rfl rfl 10 (by decide) (hts _ lkX5_isReady_1) (fun _ h9 => h9) rfl dX5_isReady_75 ?_
        refine lv_iload_n hx hb dX5_isReady_78 rfl (lv_at hl 2 rfl) ?_
        obtain ⟨v6, hq7, h⟩ := bd1_e h
        refine zz_cS (As := [.int on, .int p1]) ⟨hx, hb, hml, hown, hts⟩ (kX5_has l D cI cZ cL on p1 N hq7) (va_cwS 2 hts gX5_isReady_X5_has rfl rfl rfl (by decide +kernel) ⟨Nat.le_of_ble_eq_true rfl, Nat.le_of_ble_eq_true rfl⟩) (hP.sub (ws' := []) [] rfl) hKK rfl hl.1 rfl (Nat.le_of_ble_eq_true rfl) dX5_isReady_79 ⟨Nat.le_of_ble_eq_true rfl, Nat.le_of_ble_eq_true rfl⟩ ?_
        refine lv_iload_n hx hb dX5_isReady_82 rfl (lv_at hl 1 rfl) ?_
        refine lv_iconst (v := 5) hx hb dX5_isReady_83 (by decide) ?_
        refine lv_icmp_ne (tgt := 91) hx hb dX5_isReady_84 (by decide) (fun c8 => ?_) (fun c8 => ?_)
        · have h := it_f h c8
          refine lv_iconst (v := 0) hx hb dX5_isReady_91 (by decide) ?_
          refine lv_icmp_ne (tgt := 99) hx hb dX5_isReady_92 (by decide) (fun c9 => ?_) (fun c9 => ?_)
          · have h := it_f h c9
            refine lv_iconst (v := 0) hx hb dX5_isReady_99 (by decide) ?_
            rw [hQQ]
            exact W.zret (v := 0) hx hb hr (by decide) (fun t ht hW => ⟨_, rfl, Option.some.inj h, ht⟩) (fun q hq => absurd hq List.not_mem_nil) dX5_isReady_100
          · have h := it_t h c9
            refine lv_iconst (v := 1) hx hb dX5_isReady_95 (by decide) ?_
            refine lv_goto (tgt := 100) hx hb dX5_isReady_96 (by decide) ?_
            rw [hQQ]
            exact W.zret (v := 1) hx hb hr (by decide) (fun t ht hW => ⟨_, rfl, Option.some.inj h, ht⟩) (fun q hq => absurd hq List.not_mem_nil) dX5_isReady_100
        · have h := it_t h c8
          refine lv_iconst (v := 1) hx hb dX5_isReady_87 (by decide) ?_
          refine lv_goto (tgt := 92) hx hb dX5_isReady_88 (by decide) ?_
          refine lv_icmp_ne (tgt := 99) hx hb dX5_isReady_92 (by decide) (fun c10 => ?_) (fun c10 => ?_)
          · have h := it_f h c10
            refine lv_iconst (v := 0) hx hb dX5_isReady_99 (by decide) ?_
            rw [hQQ]
            exact W.zret (v := 0) hx hb hr (by decide) (fun t ht hW => ⟨_, rfl, Option.some.inj h, ht⟩) (fun q hq => absurd hq List.not_mem_nil) dX5_isReady_100
          · have h := it_t h c10
            refine lv_iconst (v := 1) hx hb dX5_isReady_95 (by decide) ?_
            refine lv_goto (tgt := 100) hx hb dX5_isReady_96 (by decide) ?_
            rw [hQQ]
            exact W.zret (v := 1) hx hb hr (by decide) (fun t ht hW => ⟨_, rfl, Option.some.inj h, ht⟩) (fun q hq => absurd hq List.not_mem_nil) dX5_isReady_100
    · have h := it_f h c2
      refine lv_aload_n hx hb dX5_isReady_36 rfl (lv_at hl 0 rfl) ?_
      refine va_get (D := D) (ci := 5) (v := .int ea) (C := RX5) (T := TX5) (N := 19) hx hb hts inX5_isReady_X5 hown hK hP 0 rfl rfl 9 (by decide) (hts _ lkX5_isReady_2) (fun _ h9 => h9) rfl dX5_isReady_37 ?_
      refine lv_iload_n hx hb dX5_isReady_40 rfl (lv_at hl 2 rfl) ?_
      obtain ⟨v11, hq12, h⟩ := bd1_e h
      refine zz_cS (As := [.int ea, .int p1]) ⟨hx, hb, hml, hown, hts⟩ (kX5_has l D cI cZ cL ea p1 N hq12) (va_cwS 2 hts gX5_isReady_X5_has rfl rfl rfl (by decide +kernel) ⟨Nat.le_of_ble_eq_true rfl, Nat.le_of_ble_eq_true rfl⟩) (hP.sub (ws' := []) [] rfl) hKK rfl hl.1 rfl (Nat.le_of_ble_eq_true rfl) dX5_isReady_41 ⟨Nat.le_of_ble_eq_true rfl, Nat.le_of_ble_eq_true rfl⟩ ?_
      refine lv_iload_n hx hb dX5_isReady_44 rfl (lv_at hl 1 rfl) ?_
      refine lv_iconst (v := 3) hx hb dX5_isReady_45 (by decide) ?_
      refine lv_icmp_ne (tgt := 53) hx hb dX5_isReady_46 (by decide) (fun c13 => ?_) (fun c13 => ?_)
      · have h := it_f h c13
        refine lv_iconst (v := 0) hx hb dX5_isReady_53 (by decide) ?_
        refine lv_icmp_ne (tgt := 61) hx hb dX5_isReady_54 (by decide) (fun c14 => ?_) (fun c14 => ?_)
        · have h := it_f h c14
          refine lv_iconst (v := 0) hx hb dX5_isReady_61 (by decide) ?_
          rw [hQQ]
          exact W.zret (v := 0) hx hb hr (by decide) (fun t ht hW => ⟨_, rfl, Option.some.inj h, ht⟩) (fun q hq => absurd hq List.not_mem_nil) dX5_isReady_62
        · have h := it_t h c14
          refine lv_iconst (v := 1) hx hb dX5_isReady_57 (by decide) ?_
          refine lv_goto (tgt := 62) hx hb dX5_isReady_58 (by decide) ?_
          rw [hQQ]
          exact W.zret (v := 1) hx hb hr (by decide) (fun t ht hW => ⟨_, rfl, Option.some.inj h, ht⟩) (fun q hq => absurd hq List.not_mem_nil) dX5_isReady_62
      · have h := it_t h c13
        refine lv_iconst (v := 1) hx hb dX5_isReady_49 (by decide) ?_
        refine lv_goto (tgt := 54) hx hb dX5_isReady_50 (by decide) ?_
        refine lv_icmp_ne (tgt := 61) hx hb dX5_isReady_54 (by decide) (fun c15 => ?_) (fun c15 => ?_)
        · have h := it_f h c15
          refine lv_iconst (v := 0) hx hb dX5_isReady_61 (by decide) ?_
          rw [hQQ]
          exact W.zret (v := 0) hx hb hr (by decide) (fun t ht hW => ⟨_, rfl, Option.some.inj h, ht⟩) (fun q hq => absurd hq List.not_mem_nil) dX5_isReady_62
        · have h := it_t h c15
          refine lv_iconst (v := 1) hx hb dX5_isReady_57 (by decide) ?_
          refine lv_goto (tgt := 62) hx hb dX5_isReady_58 (by decide) ?_
          rw [hQQ]
          exact W.zret (v := 1) hx hb hr (by decide) (fun t ht hW => ⟨_, rfl, Option.some.inj h, ht⟩) (fun q hq => absurd hq List.not_mem_nil) dX5_isReady_62
  · have h := it_f h c1
    refine lv_aload_n hx hb dX5_isReady_5 rfl (lv_at hl 0 rfl) ?_
    refine va_get (D := D) (ci := 5) (v := .int cl) (C := RX5) (T := TX5) (N := 19) hx hb hts inX5_isReady_X5 hown hK hP 0 rfl rfl 8 (by decide) (hts _ lkX5_isReady_3) (fun _ h9 => h9) rfl dX5_isReady_6 ?_
    refine lv_iload_n hx hb dX5_isReady_9 rfl (lv_at hl 2 rfl) ?_
    obtain ⟨v16, hq17, h⟩ := bd1_e h
    refine zz_cS (As := [.int cl, .int p1]) ⟨hx, hb, hml, hown, hts⟩ (kX5_has l D cI cZ cL cl p1 N hq17) (va_cwS 2 hts gX5_isReady_X5_has rfl rfl rfl (by decide +kernel) ⟨Nat.le_of_ble_eq_true rfl, Nat.le_of_ble_eq_true rfl⟩) (hP.sub (ws' := []) [] rfl) hKK rfl hl.1 rfl (Nat.le_of_ble_eq_true rfl) dX5_isReady_10 ⟨Nat.le_of_ble_eq_true rfl, Nat.le_of_ble_eq_true rfl⟩ ?_
    refine lv_iload_n hx hb dX5_isReady_13 rfl (lv_at hl 1 rfl) ?_
    refine lv_if_ne (tgt := 21) hx hb dX5_isReady_14 (by decide) (fun c18 => ?_) (fun c18 => ?_)
    · have h := it_f h c18
      refine lv_iconst (v := 0) hx hb dX5_isReady_21 (by decide) ?_
      refine lv_icmp_ne (tgt := 29) hx hb dX5_isReady_22 (by decide) (fun c19 => ?_) (fun c19 => ?_)
      · have h := it_f h c19
        refine lv_iconst (v := 0) hx hb dX5_isReady_29 (by decide) ?_
        rw [hQQ]
        exact W.zret (v := 0) hx hb hr (by decide) (fun t ht hW => ⟨_, rfl, Option.some.inj h, ht⟩) (fun q hq => absurd hq List.not_mem_nil) dX5_isReady_30
      · have h := it_t h c19
        refine lv_iconst (v := 1) hx hb dX5_isReady_25 (by decide) ?_
        refine lv_goto (tgt := 30) hx hb dX5_isReady_26 (by decide) ?_
        rw [hQQ]
        exact W.zret (v := 1) hx hb hr (by decide) (fun t ht hW => ⟨_, rfl, Option.some.inj h, ht⟩) (fun q hq => absurd hq List.not_mem_nil) dX5_isReady_30
    · have h := it_t h c18
      refine lv_iconst (v := 1) hx hb dX5_isReady_17 (by decide) ?_
      refine lv_goto (tgt := 22) hx hb dX5_isReady_18 (by decide) ?_
      refine lv_icmp_ne (tgt := 29) hx hb dX5_isReady_22 (by decide) (fun c20 => ?_) (fun c20 => ?_)
      · have h := it_f h c20
        refine lv_iconst (v := 0) hx hb dX5_isReady_29 (by decide) ?_
        rw [hQQ]
        exact W.zret (v := 0) hx hb hr (by decide) (fun t ht hW => ⟨_, rfl, Option.some.inj h, ht⟩) (fun q hq => absurd hq List.not_mem_nil) dX5_isReady_30
      · have h := it_t h c20
        refine lv_iconst (v := 1) hx hb dX5_isReady_25 (by decide) ?_
        refine lv_goto (tgt := 30) hx hb dX5_isReady_26 (by decide) ?_
        rw [hQQ]
        exact W.zret (v := 1) hx hb hr (by decide) (fun t ht hW => ⟨_, rfl, Option.some.inj h, ht⟩) (fun q hq => absurd hq List.not_mem_nil) dX5_isReady_30

def fX5_partOf (N : Nat) (th : Int32) (nd : Int32) (sw : Int32) (so : Int32) (lo : Int32) (cl : Int32) (ea : Int32) (on : Int32) (lg : Int32) (wr : Int32) (pe : Int32) (one : Nat → Int32) (oth : Nat → Int32) (p0 : Int32) (p1 : Int32) : Option ((Int32)) :=
  it2 (fun g7_3 (x1 : Int32) (x2 : Int32) => (if x2 = x1 then some x2 else it2 (fun g19_8 (x6 : Int32) (x7 : Int32) => (if sw ≤ x6 then g7_3 x2 x7 else gin x6 24 (bd1 (fX5_has N  x7 (one x6.toNatClampNeg)) (fun v12 => jn1 (fun (y14 : Int32) => (if y14 = 0 then g19_8 (x6 + 1) (x7 ||| 0) else bd1 (fX5_has N  p1 x6) (fun v18 => (if v18 = 0 then g19_8 (x6 + 1) (x7 ||| 0) else gin x6 24 (gin x6 24 (g19_8 (x6 + 1) (x7 ||| (((1 : Int32) <<< ((one x6.toNatClampNeg) &&& 31)) ||| ((1 : Int32) <<< ((oth x6.toNatClampNeg) &&& 31)))))))))) (fun g61_15 => (if v12 = 0 then gin x6 24 (bd1 (fX5_has N  x7 (oth x6.toNatClampNeg)) (fun v25 => (if v25 = 0 then g61_15 0 else g61_15 1))) else g61_15 1)))))) N 0 x2)) N 0 ((1 : Int32) <<< (p0 &&& 31))
set_option maxRecDepth 100000 in
theorem inX5_partOf_X5 : ∀ w ∈ wsX50, w ∈ wsX5_partOf := by decide +kernel
set_option maxRecDepth 100000 in
theorem lkX5_partOf_0 : (.fieldLink RX5 46 "SwitchlogModel" "switches" "I" : Cond) ∈ wsX5_partOf := by decide +kernel
set_option maxRecDepth 100000 in
theorem lkX5_partOf_1 : (.fieldLink RX5 7 "SwitchlogModel" "one" "[I" : Cond) ∈ wsX5_partOf := by decide +kernel
set_option maxRecDepth 100000 in
theorem lkX5_partOf_2 : (.fieldLink RX5 13 "SwitchlogModel" "other" "[I" : Cond) ∈ wsX5_partOf := by decide +kernel
abbrev rmX5_partOf : Room := { frames := 1, cells := 0, slots := 0, locals := 21 }
set_option maxHeartbeats 4000000 in
set_option maxRecDepth 100000 in
theorem kX5_partOf (l : Launch) (D : va_G) (cI cZ cL : ClassId) (h_m a_isb a_log a_seq a_mho a_mih a_far h_one h_oth : Nat) (th : Int32) (nd : Int32) (sw : Int32) (so : Int32) (lo : Int32) (cl : Int32) (ea : Int32) (on : Int32) (lg : Int32) (wr : Int32) (pe : Int32) (one : Nat → Int32) (oth : Nat → Int32) (p0 : Int32) (p1 : Int32) (N : Nat) {r : Int32} (h : fX5_partOf N th nd sw so lo cl ea on lg wr pe one oth p0 p1 = some r) : Met l yX5_partOf wsX5_partOf rmX5_partOf (PR D cI cZ cL [.ref h_m, .int p0, .int p1] [(h_m, .inr (5, [.int th, .int nd, .int sw, .int so, .int lo, .ref h_one, .ref h_oth, .ref a_isb, .int cl, .int ea, .int on, .int lg, .ref a_log, .int wr, .ref a_seq, .int pe, .ref a_mho, .ref a_mih, .ref a_far])), (h_one, .inl (cI, 24, .inl one)), (h_oth, .inl (cI, 24, .inl oth))]) (vp_Si (fun z => z = r)) 0 0 (fun _ => False) := by
  refine Met.ofW (cc := cX5_partOf) (maxL := 7) (ret := (some .int)) (by decide) rfl ?_
  intro p e s m args below meth c s₁ B hml hv
  obtain ⟨rfl, hP, hKK⟩ := hv
  have hK := hKK.1
  have hx := B.exec
  have hb := B.bytes
  have hr := B.returns
  have hts := atoms_spec (ws := wsX5_partOf) B.pre
  have hown : s.vm.findClass RX5 = some m.cls := findClass_of_methodNamed B.named
  have hlocks := B.notSynchronized
  have hl := lv_entry ([.ref h_m, .int p0, .int p1]) (n := 7) (Nat.le_of_ble_eq_true rfl)
  rw [lg_entry_eq]
  generalize (lg_sl ([.ref h_m, .int p0, .int p1]) ++ List.replicate (7 - (lg_sl ([.ref h_m, .int p0, .int p1])).length) Slot.unset).toArray = ls at hl ⊢
  have hl : lv_has ls 7 [(0, .ref h_m), (1, .int p0), (2, .int p1)] := hl
  obtain ⟨QQ, hQQ⟩ : ∃ Z, Z = MQ below (vp_Si (fun z => z = r)) ([.ref h_m, .int p0, .int p1] : List Value).toArray s 0 0 (fun _ => False) := ⟨_, rfl⟩
  rw [← hQQ]
  unfold fX5_partOf at h
  refine lv_iconst (v := 1) hx hb dX5_partOf_0 (by decide) ?_
  refine lv_iload_n hx hb dX5_partOf_1 rfl (lv_at hl 1 rfl) ?_
  refine lv_ishl hx hb dX5_partOf_2 ?_
  refine lv_istore_n (lv' := [(3, .int ((1 : Int32) <<< (p0 &&& 31))), (0, .ref h_m), (1, .int p0), (2, .int p1)]) hx hb dX5_partOf_3 rfl hl (by decide) rfl (fun ls hl => ?_)
  refine lv_iconst (v := 0) hx hb dX5_partOf_4 (by decide) ?_
  refine lv_istore (lv' := [(4, .int 0), (3, .int ((1 : Int32) <<< (p0 &&& 31))), (0, .ref h_m), (1, .int p0), (2, .int p1)]) hx hb dX5_partOf_5 hl (by decide) rfl (fun ls hl => ?_)
  refine it2_e (fun (x1 : Int32) (x2 : Int32) => ∀ ls : Array Slot, lv_has ls 7 [(4, .int x1), (3, .int x2), (0, .ref h_m), (1, .int p0), (2, .int p1)] → W p l e (headSpec wsX5_partOf rmX5_partOf).room s m (([.ref h_m, .int p0, .int p1] : List Value).toArray) below meth c s.heap [] 0 0 QQ (F0 m 7 ls [])) (fun g7_3 hg7_4 x1 x2 h ls hl => ?_) N 0 ((1 : Int32) <<< (p0 &&& 31)) h ls (lv_sub hl [0, 1, 2, 3, 4] rfl)
  refine lv_iload_n hx hb dX5_partOf_7 rfl (lv_at hl 1 rfl) ?_
  refine lv_iload hx hb dX5_partOf_8 (lv_at hl 0 rfl) ?_
  refine lv_icmp_eq (tgt := 112) hx hb dX5_partOf_10 (by decide) (fun c5 => ?_) (fun c5 => ?_)
  · have h := it_t h c5
    refine lv_iload_n hx hb dX5_partOf_112 rfl (lv_at hl 1 rfl) ?_
    rw [hQQ]
    exact W.iret (v := x2) hx hb hr (fun t ht hW => ⟨_, rfl, Option.some.inj h, ht⟩) (fun q hq => absurd hq List.not_mem_nil) dX5_partOf_113
  · have h := it_f h c5
    refine lv_iload_n hx hb dX5_partOf_13 rfl (lv_at hl 1 rfl) ?_
    refine lv_istore (lv' := [(4, .int x2), (3, .int x2), (0, .ref h_m), (1, .int p0), (2, .int p1)]) hx hb dX5_partOf_14 hl (by decide) rfl (fun ls hl => ?_)
    refine lv_iconst (v := 0) hx hb dX5_partOf_16 (by decide) ?_
    refine lv_istore (lv' := [(5, .int 0), (4, .int x2), (3, .int x2), (0, .ref h_m), (1, .int p0), (2, .int p1)]) hx hb dX5_partOf_17 hl (by decide) rfl (fun ls hl => ?_)
    refine it2_e (fun (x6 : Int32) (x7 : Int32) => ∀ ls : Array Slot, lv_has ls 7 [(5, .int x6), (4, .int x2), (3, .int x7), (0, .ref h_m), (1, .int p0), (2, .int p1)] → W p l e (headSpec wsX5_partOf rmX5_partOf).room s m (([.ref h_m, .int p0, .int p1] : List Value).toArray) below meth c s.heap [] 0 0 QQ (F0 m 19 ls [])) (fun g19_8 hg19_9 x6 x7 h ls hl => ?_) N 0 x2 h ls (lv_sub hl [0, 1, 2, 3, 4, 5] rfl)
    refine lv_iload hx hb dX5_partOf_19 (lv_at hl 0 rfl) ?_
    refine lv_aload_n hx hb dX5_partOf_21 rfl (lv_at hl 3 rfl) ?_
    refine va_get (D := D) (ci := 5) (v := .int sw) (C := RX5) (T := TX5) (N := 19) hx hb hts inX5_partOf_X5 hown hK hP 0 rfl rfl 2 (by decide) (hts _ lkX5_partOf_0) (fun _ h9 => h9) rfl dX5_partOf_22 ?_
    refine lv_icmp_ge (tgt := 109) hx hb dX5_partOf_25 (by decide) (fun c10 => ?_) (fun c10 => ?_)
    · have h := it_t h c10
      refine lv_goto (tgt := 7) hx hb dX5_partOf_109 (by decide) ?_
      exact hg7_4 x2 x7 h ls (lv_sub hl [1, 2, 3, 4, 5] rfl)
    · have h := it_f h c10
      refine lv_iload_n hx hb dX5_partOf_28 rfl (lv_at hl 2 rfl) ?_
      refine lv_aload_n hx hb dX5_partOf_29 rfl (lv_at hl 3 rfl) ?_
      refine va_get (D := D) (ci := 5) (v := .ref h_one) (C := RX5) (T := TX5) (N := 19) hx hb hts inX5_partOf_X5 hown hK hP 0 rfl rfl 5 (by decide) (hts _ lkX5_partOf_1) (fun _ h9 => h9) rfl dX5_partOf_30 ?_
      refine lv_iload hx hb dX5_partOf_33 (lv_at hl 0 rfl) ?_
      obtain ⟨hi11, h⟩ := gin_e h
      refine va_iald hx hb hK hP 1 0 rfl rfl hi11 dX5_partOf_35 ?_
      obtain ⟨v12, hq13, h⟩ := bd1_e h
      refine zz_cS (As := [.int x7, .int (one x6.toNatClampNeg)]) ⟨hx, hb, hml, hown, hts⟩ (kX5_has l D cI cZ cL x7 (one x6.toNatClampNeg) N hq13) (va_cwS 2 hts gX5_partOf_X5_has rfl rfl rfl (by decide +kernel) ⟨Nat.le_of_ble_eq_true rfl, Nat.le_of_ble_eq_true rfl⟩) (hP.sub (ws' := []) [] rfl) hKK rfl hl.1 rfl (Nat.le_of_ble_eq_true rfl) dX5_partOf_36 ⟨Nat.le_of_ble_eq_true rfl, Nat.le_of_ble_eq_true rfl⟩ ?_
      refine jn1_e (fun (y14 : Int32) => ∀ ls : Array Slot, lv_has ls 7 [(5, .int x6), (4, .int x2), (3, .int x7), (0, .ref h_m), (1, .int p0), (2, .int p1)] → W p l e (headSpec wsX5_partOf rmX5_partOf).room s m (([.ref h_m, .int p0, .int p1] : List Value).toArray) below meth c s.heap [] 0 0 QQ (F0 m 61 ls [.int y14])) h (fun y14 h ls hl => ?_) (fun g61_15 hg61_16 h => ?_)
      · refine lv_istore (lv' := [(6, .int y14), (5, .int x6), (4, .int x2), (3, .int x7), (0, .ref h_m), (1, .int p0), (2, .int p1)]) hx hb dX5_partOf_61 hl (by decide) rfl (fun ls hl => ?_)
        refine lv_iload_n hx hb dX5_partOf_63 rfl (lv_at hl 3 rfl) ?_
        refine lv_iload hx hb dX5_partOf_64 (lv_at hl 0 rfl) ?_
        refine lv_if_eq (tgt := 100) hx hb dX5_partOf_66 (by decide) (fun c17 => ?_) (fun c17 => ?_)
        · have h := it_t h c17
          refine lv_iconst (v := 0) hx hb dX5_partOf_100 (by decide) ?_
          refine lv_ior hx hb dX5_partOf_101 ?_
          refine lv_istore_n (lv' := [(3, .int (x7 ||| 0)), (6, .int y14), (5, .int x6), (4, .int x2), (0, .ref h_m), (1, .int p0), (2, .int p1)]) hx hb dX5_partOf_102 rfl hl (by decide) rfl (fun ls hl => ?_)
          refine lv_iinc (v := x6 + 1) (lv' := [(5, .int (x6 + 1)), (3, .int (x7 ||| 0)), (6, .int y14), (4, .int x2), (0, .ref h_m), (1, .int p0), (2, .int p1)]) hx hb dX5_partOf_103 hl (k := 2) rfl rfl (by decide) rfl (fun ls hl => ?_)
          refine lv_goto (tgt := 19) hx hb dX5_partOf_106 (by decide) ?_
          exact hg19_9 (x6 + 1) (x7 ||| 0) h ls (lv_sub hl [0, 3, 1, 4, 5, 6] rfl)
        · have h := it_f h c17
          refine lv_iload_n hx hb dX5_partOf_69 rfl (lv_at hl 6 rfl) ?_
          refine lv_iload hx hb dX5_partOf_70 (lv_at hl 1 rfl) ?_
          obtain ⟨v18, hq19, h⟩ := bd1_e h
          refine zz_cS (As := [.int p1, .int x6]) ⟨hx, hb, hml, hown, hts⟩ (kX5_has l D cI cZ cL p1 x6 N hq19) (va_cwS 2 hts gX5_partOf_X5_has rfl rfl rfl (by decide +kernel) ⟨Nat.le_of_ble_eq_true rfl, Nat.le_of_ble_eq_true rfl⟩) (hP.sub (ws' := []) [] rfl) hKK rfl hl.1 rfl (Nat.le_of_ble_eq_true rfl) dX5_partOf_72 ⟨Nat.le_of_ble_eq_true rfl, Nat.le_of_ble_eq_true rfl⟩ ?_
          refine lv_if_eq (tgt := 100) hx hb dX5_partOf_75 (by decide) (fun c20 => ?_) (fun c20 => ?_)
          · have h := it_t h c20
            refine lv_iconst (v := 0) hx hb dX5_partOf_100 (by decide) ?_
            refine lv_ior hx hb dX5_partOf_101 ?_
            refine lv_istore_n (lv' := [(3, .int (x7 ||| 0)), (6, .int y14), (5, .int x6), (4, .int x2), (0, .ref h_m), (1, .int p0), (2, .int p1)]) hx hb dX5_partOf_102 rfl hl (by decide) rfl (fun ls hl => ?_)
            refine lv_iinc (v := x6 + 1) (lv' := [(5, .int (x6 + 1)), (3, .int (x7 ||| 0)), (6, .int y14), (4, .int x2), (0, .ref h_m), (1, .int p0), (2, .int p1)]) hx hb dX5_partOf_103 hl (k := 2) rfl rfl (by decide) rfl (fun ls hl => ?_)
            refine lv_goto (tgt := 19) hx hb dX5_partOf_106 (by decide) ?_
            exact hg19_9 (x6 + 1) (x7 ||| 0) h ls (lv_sub hl [0, 3, 1, 4, 5, 6] rfl)
          · have h := it_f h c20
            refine lv_iconst (v := 1) hx hb dX5_partOf_78 (by decide) ?_
            refine lv_aload_n hx hb dX5_partOf_79 rfl (lv_at hl 4 rfl) ?_
            refine va_get (D := D) (ci := 5) (v := .ref h_one) (C := RX5) (T := TX5) (N := 19) hx hb hts inX5_partOf_X5 hown hK hP 0 rfl rfl 5 (by decide) (hts _ lkX5_partOf_1) (fun _ h9 => h9) rfl dX5_partOf_80 ?_
            refine lv_iload hx hb dX5_partOf_83 (lv_at hl 1 rfl) ?_
            obtain ⟨hi21, h⟩ := gin_e h
            refine va_iald hx hb hK hP 1 0 rfl rfl hi21 dX5_partOf_85 ?_
            refine lv_ishl hx hb dX5_partOf_86 ?_
            refine lv_iconst (v := 1) hx hb dX5_partOf_87 (by decide) ?_
            refine lv_aload_n hx hb dX5_partOf_88 rfl (lv_at hl 4 rfl) ?_
            refine va_get (D := D) (ci := 5) (v := .ref h_oth) (C := RX5) (T := TX5) (N := 19) hx hb hts inX5_partOf_X5 hown hK hP 0 rfl rfl 6 (by decide) (hts _ lkX5_partOf_2) (fun _ h9 => h9) rfl dX5_partOf_89 ?_
            refine lv_iload hx hb dX5_partOf_92 (lv_at hl 1 rfl) ?_
            obtain ⟨hi22, h⟩ := gin_e h
            refine va_iald hx hb hK hP 2 0 rfl rfl hi22 dX5_partOf_94 ?_
            refine lv_ishl hx hb dX5_partOf_95 ?_
            refine lv_ior hx hb dX5_partOf_96 ?_
            refine lv_goto (tgt := 101) hx hb dX5_partOf_97 (by decide) ?_
            refine lv_ior hx hb dX5_partOf_101 ?_
            refine lv_istore_n (lv' := [(3, .int (x7 ||| (((1 : Int32) <<< ((one x6.toNatClampNeg) &&& 31)) ||| ((1 : Int32) <<< ((oth x6.toNatClampNeg) &&& 31))))), (6, .int y14), (5, .int x6), (4, .int x2), (0, .ref h_m), (1, .int p0), (2, .int p1)]) hx hb dX5_partOf_102 rfl hl (by decide) rfl (fun ls hl => ?_)
            refine lv_iinc (v := x6 + 1) (lv' := [(5, .int (x6 + 1)), (3, .int (x7 ||| (((1 : Int32) <<< ((one x6.toNatClampNeg) &&& 31)) ||| ((1 : Int32) <<< ((oth x6.toNatClampNeg) &&& 31))))), (6, .int y14), (4, .int x2), (0, .ref h_m), (1, .int p0), (2, .int p1)]) hx hb dX5_partOf_103 hl (k := 2) rfl rfl (by decide) rfl (fun ls hl => ?_)
            refine lv_goto (tgt := 19) hx hb dX5_partOf_106 (by decide) ?_
            exact hg19_9 (x6 + 1) (x7 ||| (((1 : Int32) <<< ((one x6.toNatClampNeg) &&& 31)) ||| ((1 : Int32) <<< ((oth x6.toNatClampNeg) &&& 31)))) h ls (lv_sub hl [0, 3, 1, 4, 5, 6] rfl)
      · refine lv_if_ne (tgt := 56) hx hb dX5_partOf_39 (by decide) (fun c23 => ?_) (fun c23 => ?_)
        · have h := it_f h c23
          refine lv_iconst (v := 1) hx hb dX5_partOf_56 (by decide) ?_
          refine lv_goto (tgt := 61) hx hb dX5_partOf_57 (by decide) ?_
          exact hg61_16 1 h ls (lv_sub hl [0, 1, 2, 3, 4, 5] rfl)
        · have h := it_t h c23
          refine lv_iload_n hx hb dX5_partOf_42 rfl (lv_at hl 2 rfl) ?_
          refine lv_aload_n hx hb dX5_partOf_43 rfl (lv_at hl 3 rfl) ?_
          refine va_get (D := D) (ci := 5) (v := .ref h_oth) (C := RX5) (T := TX5) (N := 19) hx hb hts inX5_partOf_X5 hown hK hP 0 rfl rfl 6 (by decide) (hts _ lkX5_partOf_2) (fun _ h9 => h9) rfl dX5_partOf_44 ?_
          refine lv_iload hx hb dX5_partOf_47 (lv_at hl 0 rfl) ?_
          obtain ⟨hi24, h⟩ := gin_e h
          refine va_iald hx hb hK hP 2 0 rfl rfl hi24 dX5_partOf_49 ?_
          obtain ⟨v25, hq26, h⟩ := bd1_e h
          refine zz_cS (As := [.int x7, .int (oth x6.toNatClampNeg)]) ⟨hx, hb, hml, hown, hts⟩ (kX5_has l D cI cZ cL x7 (oth x6.toNatClampNeg) N hq26) (va_cwS 2 hts gX5_partOf_X5_has rfl rfl rfl (by decide +kernel) ⟨Nat.le_of_ble_eq_true rfl, Nat.le_of_ble_eq_true rfl⟩) (hP.sub (ws' := []) [] rfl) hKK rfl hl.1 rfl (Nat.le_of_ble_eq_true rfl) dX5_partOf_50 ⟨Nat.le_of_ble_eq_true rfl, Nat.le_of_ble_eq_true rfl⟩ ?_
          refine lv_if_eq (tgt := 60) hx hb dX5_partOf_53 (by decide) (fun c27 => ?_) (fun c27 => ?_)
          · have h := it_t h c27
            refine lv_iconst (v := 0) hx hb dX5_partOf_60 (by decide) ?_
            exact hg61_16 0 h ls (lv_sub hl [0, 1, 2, 3, 4, 5] rfl)
          · have h := it_f h c27
            refine lv_iconst (v := 1) hx hb dX5_partOf_56 (by decide) ?_
            refine lv_goto (tgt := 61) hx hb dX5_partOf_57 (by decide) ?_
            exact hg61_16 1 h ls (lv_sub hl [0, 1, 2, 3, 4, 5] rfl)

def fX5_isLive (N : Nat) (th : Int32) (nd : Int32) (sw : Int32) (so : Int32) (lo : Int32) (cl : Int32) (ea : Int32) (on : Int32) (lg : Int32) (wr : Int32) (pe : Int32) (one : Nat → Int32) (oth : Nat → Int32) (p0 : Int32) (p1 : Int32) (p2 : Int32) : Option ((Int32)) :=
  bd1 (fX5_partOf N th nd sw so lo cl ea on lg wr pe one oth p0 p1) (fun v1 => (if (v1 &&& p2) = 0 then some 0 else some 1))
abbrev rmX5_isLive : Room := { frames := 2, cells := 0, slots := 0, locals := 47 }
set_option maxHeartbeats 4000000 in
set_option maxRecDepth 100000 in
theorem kX5_isLive (l : Launch) (D : va_G) (cI cZ cL : ClassId) (h_m a_isb a_log a_seq a_mho a_mih a_far h_one h_oth : Nat) (th : Int32) (nd : Int32) (sw : Int32) (so : Int32) (lo : Int32) (cl : Int32) (ea : Int32) (on : Int32) (lg : Int32) (wr : Int32) (pe : Int32) (one : Nat → Int32) (oth : Nat → Int32) (p0 : Int32) (p1 : Int32) (p2 : Int32) (N : Nat) {r : Int32} (h : fX5_isLive N th nd sw so lo cl ea on lg wr pe one oth p0 p1 p2 = some r) : Met l yX5_isLive wsX5_isLive rmX5_isLive (PR D cI cZ cL [.ref h_m, .int p0, .int p1, .int p2] [(h_m, .inr (5, [.int th, .int nd, .int sw, .int so, .int lo, .ref h_one, .ref h_oth, .ref a_isb, .int cl, .int ea, .int on, .int lg, .ref a_log, .int wr, .ref a_seq, .int pe, .ref a_mho, .ref a_mih, .ref a_far])), (h_one, .inl (cI, 24, .inl one)), (h_oth, .inl (cI, 24, .inl oth))]) (vp_Si (fun z => z = r)) 0 0 (fun _ => False) := by
  refine Met.ofW (cc := cX5_isLive) (maxL := 4) (ret := (some .boolean)) (by decide) rfl ?_
  intro p e s m args below meth c s₁ B hml hv
  obtain ⟨rfl, hP, hKK⟩ := hv
  have hK := hKK.1
  have hx := B.exec
  have hb := B.bytes
  have hr := B.returns
  have hts := atoms_spec (ws := wsX5_isLive) B.pre
  have hown : s.vm.findClass RX5 = some m.cls := findClass_of_methodNamed B.named
  have hlocks := B.notSynchronized
  have hl := lv_entry ([.ref h_m, .int p0, .int p1, .int p2]) (n := 4) (Nat.le_of_ble_eq_true rfl)
  rw [lg_entry_eq]
  generalize (lg_sl ([.ref h_m, .int p0, .int p1, .int p2]) ++ List.replicate (4 - (lg_sl ([.ref h_m, .int p0, .int p1, .int p2])).length) Slot.unset).toArray = ls at hl ⊢
  have hl : lv_has ls 4 [(0, .ref h_m), (1, .int p0), (2, .int p1), (3, .int p2)] := hl
  obtain ⟨QQ, hQQ⟩ : ∃ Z, Z = MQ below (vp_Si (fun z => z = r)) ([.ref h_m, .int p0, .int p1, .int p2] : List Value).toArray s 0 0 (fun _ => False) := ⟨_, rfl⟩
  rw [← hQQ]
  unfold fX5_isLive at h
  refine lv_aload_n hx hb dX5_isLive_0 rfl (lv_at hl 0 rfl) ?_
  refine lv_iload_n hx hb dX5_isLive_1 rfl (lv_at hl 1 rfl) ?_
  refine lv_iload_n hx hb dX5_isLive_2 rfl (lv_at hl 2 rfl) ?_
  obtain ⟨v1, hq2, h⟩ := bd1_e h
  refine zz_cV (As := [.int p0, .int p1]) ⟨hx, hb, hml, hown, hts⟩ (kX5_partOf l D cI cZ cL h_m a_isb a_log a_seq a_mho a_mih a_far h_one h_oth th nd sw so lo cl ea on lg wr pe one oth p0 p1 N hq2) (cwV 2 hts gX5_isLive_X5_partOf rfl rfl rfl (by decide +kernel) ⟨Nat.le_of_ble_eq_true rfl, Nat.le_of_ble_eq_true rfl⟩) (hP.sub (ws' := [(h_m, .inr (5, [.int th, .int nd, .int sw, .int so, .int lo, .ref h_one, .ref h_oth, .ref a_isb, .int cl, .int ea, .int on, .int lg, .ref a_log, .int wr, .ref a_seq, .int pe, .ref a_mho, .ref a_mih, .ref a_far])), (h_one, .inl (cI, 24, .inl one)), (h_oth, .inl (cI, 24, .inl oth))]) [0, 1, 2] rfl) hKK (va_recv hK hP (ci := 5) (q0 := 0) rfl rfl) rfl hl.1 rfl (Nat.le_of_ble_eq_true rfl) dX5_isLive_3 ⟨Nat.le_of_ble_eq_true rfl, Nat.le_of_ble_eq_true rfl⟩ ?_
  refine lv_iload_n hx hb dX5_isLive_6 rfl (lv_at hl 3 rfl) ?_
  refine lv_iand hx hb dX5_isLive_7 ?_
  refine lv_if_eq (tgt := 15) hx hb dX5_isLive_8 (by decide) (fun c3 => ?_) (fun c3 => ?_)
  · have h := it_t h c3
    refine lv_iconst (v := 0) hx hb dX5_isLive_15 (by decide) ?_
    rw [hQQ]
    exact W.zret (v := 0) hx hb hr (by decide) (fun t ht hW => ⟨_, rfl, Option.some.inj h, ht⟩) (fun q hq => absurd hq List.not_mem_nil) dX5_isLive_16
  · have h := it_f h c3
    refine lv_iconst (v := 1) hx hb dX5_isLive_11 (by decide) ?_
    refine lv_goto (tgt := 16) hx hb dX5_isLive_12 (by decide) ?_
    rw [hQQ]
    exact W.zret (v := 1) hx hb hr (by decide) (fun t ht hW => ⟨_, rfl, Option.some.inj h, ht⟩) (fun q hq => absurd hq List.not_mem_nil) dX5_isLive_16

def fX5_isEarthed (N : Nat) (th : Int32) (nd : Int32) (sw : Int32) (so : Int32) (lo : Int32) (cl : Int32) (ea : Int32) (on : Int32) (lg : Int32) (wr : Int32) (pe : Int32) (one : Nat → Int32) (oth : Nat → Int32) (p0 : Int32) (p1 : Int32) (p2 : Int32) : Option ((Int32)) :=
  bd1 (fX5_partOf N th nd sw so lo cl ea on lg wr pe one oth p0 p1) (fun v1 => (if (v1 &&& p2) = 0 then some 0 else some 1))
abbrev rmX5_isEarthed : Room := { frames := 2, cells := 0, slots := 0, locals := 47 }
set_option maxHeartbeats 4000000 in
set_option maxRecDepth 100000 in
theorem kX5_isEarthed (l : Launch) (D : va_G) (cI cZ cL : ClassId) (h_m a_isb a_log a_seq a_mho a_mih a_far h_one h_oth : Nat) (th : Int32) (nd : Int32) (sw : Int32) (so : Int32) (lo : Int32) (cl : Int32) (ea : Int32) (on : Int32) (lg : Int32) (wr : Int32) (pe : Int32) (one : Nat → Int32) (oth : Nat → Int32) (p0 : Int32) (p1 : Int32) (p2 : Int32) (N : Nat) {r : Int32} (h : fX5_isEarthed N th nd sw so lo cl ea on lg wr pe one oth p0 p1 p2 = some r) : Met l yX5_isEarthed wsX5_isEarthed rmX5_isEarthed (PR D cI cZ cL [.ref h_m, .int p0, .int p1, .int p2] [(h_m, .inr (5, [.int th, .int nd, .int sw, .int so, .int lo, .ref h_one, .ref h_oth, .ref a_isb, .int cl, .int ea, .int on, .int lg, .ref a_log, .int wr, .ref a_seq, .int pe, .ref a_mho, .ref a_mih, .ref a_far])), (h_one, .inl (cI, 24, .inl one)), (h_oth, .inl (cI, 24, .inl oth))]) (vp_Si (fun z => z = r)) 0 0 (fun _ => False) := by
  refine Met.ofW (cc := cX5_isEarthed) (maxL := 4) (ret := (some .boolean)) (by decide) rfl ?_
  intro p e s m args below meth c s₁ B hml hv
  obtain ⟨rfl, hP, hKK⟩ := hv
  have hK := hKK.1
  have hx := B.exec
  have hb := B.bytes
  have hr := B.returns
  have hts := atoms_spec (ws := wsX5_isEarthed) B.pre
  have hown : s.vm.findClass RX5 = some m.cls := findClass_of_methodNamed B.named
  have hlocks := B.notSynchronized
  have hl := lv_entry ([.ref h_m, .int p0, .int p1, .int p2]) (n := 4) (Nat.le_of_ble_eq_true rfl)
  rw [lg_entry_eq]
  generalize (lg_sl ([.ref h_m, .int p0, .int p1, .int p2]) ++ List.replicate (4 - (lg_sl ([.ref h_m, .int p0, .int p1, .int p2])).length) Slot.unset).toArray = ls at hl ⊢
  have hl : lv_has ls 4 [(0, .ref h_m), (1, .int p0), (2, .int p1), (3, .int p2)] := hl
  obtain ⟨QQ, hQQ⟩ : ∃ Z, Z = MQ below (vp_Si (fun z => z = r)) ([.ref h_m, .int p0, .int p1, .int p2] : List Value).toArray s 0 0 (fun _ => False) := ⟨_, rfl⟩
  rw [← hQQ]
  unfold fX5_isEarthed at h
  refine lv_aload_n hx hb dX5_isEarthed_0 rfl (lv_at hl 0 rfl) ?_
  refine lv_iload_n hx hb dX5_isEarthed_1 rfl (lv_at hl 1 rfl) ?_
  refine lv_iload_n hx hb dX5_isEarthed_2 rfl (lv_at hl 2 rfl) ?_
  obtain ⟨v1, hq2, h⟩ := bd1_e h
  refine zz_cV (As := [.int p0, .int p1]) ⟨hx, hb, hml, hown, hts⟩ (kX5_partOf l D cI cZ cL h_m a_isb a_log a_seq a_mho a_mih a_far h_one h_oth th nd sw so lo cl ea on lg wr pe one oth p0 p1 N hq2) (cwV 2 hts gX5_isEarthed_X5_partOf rfl rfl rfl (by decide +kernel) ⟨Nat.le_of_ble_eq_true rfl, Nat.le_of_ble_eq_true rfl⟩) (hP.sub (ws' := [(h_m, .inr (5, [.int th, .int nd, .int sw, .int so, .int lo, .ref h_one, .ref h_oth, .ref a_isb, .int cl, .int ea, .int on, .int lg, .ref a_log, .int wr, .ref a_seq, .int pe, .ref a_mho, .ref a_mih, .ref a_far])), (h_one, .inl (cI, 24, .inl one)), (h_oth, .inl (cI, 24, .inl oth))]) [0, 1, 2] rfl) hKK (va_recv hK hP (ci := 5) (q0 := 0) rfl rfl) rfl hl.1 rfl (Nat.le_of_ble_eq_true rfl) dX5_isEarthed_3 ⟨Nat.le_of_ble_eq_true rfl, Nat.le_of_ble_eq_true rfl⟩ ?_
  refine lv_iload_n hx hb dX5_isEarthed_6 rfl (lv_at hl 3 rfl) ?_
  refine lv_iand hx hb dX5_isEarthed_7 ?_
  refine lv_if_eq (tgt := 15) hx hb dX5_isEarthed_8 (by decide) (fun c3 => ?_) (fun c3 => ?_)
  · have h := it_t h c3
    refine lv_iconst (v := 0) hx hb dX5_isEarthed_15 (by decide) ?_
    rw [hQQ]
    exact W.zret (v := 0) hx hb hr (by decide) (fun t ht hW => ⟨_, rfl, Option.some.inj h, ht⟩) (fun q hq => absurd hq List.not_mem_nil) dX5_isEarthed_16
  · have h := it_f h c3
    refine lv_iconst (v := 1) hx hb dX5_isEarthed_11 (by decide) ?_
    refine lv_goto (tgt := 16) hx hb dX5_isEarthed_12 (by decide) ?_
    rw [hQQ]
    exact W.zret (v := 1) hx hb hr (by decide) (fun t ht hW => ⟨_, rfl, Option.some.inj h, ht⟩) (fun q hq => absurd hq List.not_mem_nil) dX5_isEarthed_16

def fX5_isLoaded (N : Nat) (th : Int32) (nd : Int32) (sw : Int32) (so : Int32) (lo : Int32) (cl : Int32) (ea : Int32) (on : Int32) (lg : Int32) (wr : Int32) (pe : Int32) (one : Nat → Int32) (oth : Nat → Int32) (p0 : Int32) (p1 : Int32) : Option ((Int32)) :=
  bd1 (fX5_isLive N th nd sw so lo cl ea on lg wr pe one oth p0 p1 on) (fun v1 => (if v1 = 0 then some 0 else bd1 (fX5_partOf N th nd sw so lo cl ea on lg wr pe one oth p0 p1) (fun v4 => (if (v4 &&& lo) = 0 then some 0 else some 1))))
set_option maxRecDepth 100000 in
theorem inX5_isLoaded_X5 : ∀ w ∈ wsX50, w ∈ wsX5_isLoaded := by decide +kernel
set_option maxRecDepth 100000 in
theorem lkX5_isLoaded_0 : (.fieldLink RX5 67 "SwitchlogModel" "on" "I" : Cond) ∈ wsX5_isLoaded := by decide +kernel
set_option maxRecDepth 100000 in
theorem lkX5_isLoaded_1 : (.fieldLink RX5 52 "SwitchlogModel" "loads" "I" : Cond) ∈ wsX5_isLoaded := by decide +kernel
abbrev rmX5_isLoaded : Room := { frames := 3, cells := 0, slots := 0, locals := 70 }
set_option maxHeartbeats 4000000 in
set_option maxRecDepth 100000 in
theorem kX5_isLoaded (l : Launch) (D : va_G) (cI cZ cL : ClassId) (h_m a_isb a_log a_seq a_mho a_mih a_far h_one h_oth : Nat) (th : Int32) (nd : Int32) (sw : Int32) (so : Int32) (lo : Int32) (cl : Int32) (ea : Int32) (on : Int32) (lg : Int32) (wr : Int32) (pe : Int32) (one : Nat → Int32) (oth : Nat → Int32) (p0 : Int32) (p1 : Int32) (N : Nat) {r : Int32} (h : fX5_isLoaded N th nd sw so lo cl ea on lg wr pe one oth p0 p1 = some r) : Met l yX5_isLoaded wsX5_isLoaded rmX5_isLoaded (PR D cI cZ cL [.ref h_m, .int p0, .int p1] [(h_m, .inr (5, [.int th, .int nd, .int sw, .int so, .int lo, .ref h_one, .ref h_oth, .ref a_isb, .int cl, .int ea, .int on, .int lg, .ref a_log, .int wr, .ref a_seq, .int pe, .ref a_mho, .ref a_mih, .ref a_far])), (h_one, .inl (cI, 24, .inl one)), (h_oth, .inl (cI, 24, .inl oth))]) (vp_Si (fun z => z = r)) 0 0 (fun _ => False) := by
  refine Met.ofW (cc := cX5_isLoaded) (maxL := 3) (ret := (some .boolean)) (by decide) rfl ?_
  intro p e s m args below meth c s₁ B hml hv
  obtain ⟨rfl, hP, hKK⟩ := hv
  have hK := hKK.1
  have hx := B.exec
  have hb := B.bytes
  have hr := B.returns
  have hts := atoms_spec (ws := wsX5_isLoaded) B.pre
  have hown : s.vm.findClass RX5 = some m.cls := findClass_of_methodNamed B.named
  have hlocks := B.notSynchronized
  have hl := lv_entry ([.ref h_m, .int p0, .int p1]) (n := 3) (Nat.le_of_ble_eq_true rfl)
  rw [lg_entry_eq]
  generalize (lg_sl ([.ref h_m, .int p0, .int p1]) ++ List.replicate (3 - (lg_sl ([.ref h_m, .int p0, .int p1])).length) Slot.unset).toArray = ls at hl ⊢
  have hl : lv_has ls 3 [(0, .ref h_m), (1, .int p0), (2, .int p1)] := hl
  obtain ⟨QQ, hQQ⟩ : ∃ Z, Z = MQ below (vp_Si (fun z => z = r)) ([.ref h_m, .int p0, .int p1] : List Value).toArray s 0 0 (fun _ => False) := ⟨_, rfl⟩
  rw [← hQQ]
  unfold fX5_isLoaded at h
  refine lv_aload_n hx hb dX5_isLoaded_0 rfl (lv_at hl 0 rfl) ?_
  refine lv_iload_n hx hb dX5_isLoaded_1 rfl (lv_at hl 1 rfl) ?_
  refine lv_iload_n hx hb dX5_isLoaded_2 rfl (lv_at hl 2 rfl) ?_
  refine lv_aload_n hx hb dX5_isLoaded_3 rfl (lv_at hl 0 rfl) ?_
  refine va_get (D := D) (ci := 5) (v := .int on) (C := RX5) (T := TX5) (N := 19) hx hb hts inX5_isLoaded_X5 hown hK hP 0 rfl rfl 10 (by decide) (hts _ lkX5_isLoaded_0) (fun _ h9 => h9) rfl dX5_isLoaded_4 ?_
  obtain ⟨v1, hq2, h⟩ := bd1_e h
  refine zz_cV (As := [.int p0, .int p1, .int on]) ⟨hx, hb, hml, hown, hts⟩ (kX5_isLive l D cI cZ cL h_m a_isb a_log a_seq a_mho a_mih a_far h_one h_oth th nd sw so lo cl ea on lg wr pe one oth p0 p1 on N hq2) (cwV 3 hts gX5_isLoaded_X5_isLive rfl rfl rfl (by decide +kernel) ⟨Nat.le_of_ble_eq_true rfl, Nat.le_of_ble_eq_true rfl⟩) (hP.sub (ws' := [(h_m, .inr (5, [.int th, .int nd, .int sw, .int so, .int lo, .ref h_one, .ref h_oth, .ref a_isb, .int cl, .int ea, .int on, .int lg, .ref a_log, .int wr, .ref a_seq, .int pe, .ref a_mho, .ref a_mih, .ref a_far])), (h_one, .inl (cI, 24, .inl one)), (h_oth, .inl (cI, 24, .inl oth))]) [0, 1, 2] rfl) hKK (va_recv hK hP (ci := 5) (q0 := 0) rfl rfl) rfl hl.1 rfl (Nat.le_of_ble_eq_true rfl) dX5_isLoaded_7 ⟨Nat.le_of_ble_eq_true rfl, Nat.le_of_ble_eq_true rfl⟩ ?_
  refine lv_if_eq (tgt := 31) hx hb dX5_isLoaded_10 (by decide) (fun c3 => ?_) (fun c3 => ?_)
  · have h := it_t h c3
    refine lv_iconst (v := 0) hx hb dX5_isLoaded_31 (by decide) ?_
    rw [hQQ]
    exact W.zret (v := 0) hx hb hr (by decide) (fun t ht hW => ⟨_, rfl, Option.some.inj h, ht⟩) (fun q hq => absurd hq List.not_mem_nil) dX5_isLoaded_32
  · have h := it_f h c3
    refine lv_aload_n hx hb dX5_isLoaded_13 rfl (lv_at hl 0 rfl) ?_
    refine lv_iload_n hx hb dX5_isLoaded_14 rfl (lv_at hl 1 rfl) ?_
    refine lv_iload_n hx hb dX5_isLoaded_15 rfl (lv_at hl 2 rfl) ?_
    obtain ⟨v4, hq5, h⟩ := bd1_e h
    refine zz_cV (As := [.int p0, .int p1]) ⟨hx, hb, hml, hown, hts⟩ (kX5_partOf l D cI cZ cL h_m a_isb a_log a_seq a_mho a_mih a_far h_one h_oth th nd sw so lo cl ea on lg wr pe one oth p0 p1 N hq5) (cwV 2 hts gX5_isLoaded_X5_partOf rfl rfl rfl (by decide +kernel) ⟨Nat.le_of_ble_eq_true rfl, Nat.le_of_ble_eq_true rfl⟩) (hP.sub (ws' := [(h_m, .inr (5, [.int th, .int nd, .int sw, .int so, .int lo, .ref h_one, .ref h_oth, .ref a_isb, .int cl, .int ea, .int on, .int lg, .ref a_log, .int wr, .ref a_seq, .int pe, .ref a_mho, .ref a_mih, .ref a_far])), (h_one, .inl (cI, 24, .inl one)), (h_oth, .inl (cI, 24, .inl oth))]) [0, 1, 2] rfl) hKK (va_recv hK hP (ci := 5) (q0 := 0) rfl rfl) rfl hl.1 rfl (Nat.le_of_ble_eq_true rfl) dX5_isLoaded_16 ⟨Nat.le_of_ble_eq_true rfl, Nat.le_of_ble_eq_true rfl⟩ ?_
    refine lv_aload_n hx hb dX5_isLoaded_19 rfl (lv_at hl 0 rfl) ?_
    refine va_get (D := D) (ci := 5) (v := .int lo) (C := RX5) (T := TX5) (N := 19) hx hb hts inX5_isLoaded_X5 hown hK hP 0 rfl rfl 4 (by decide) (hts _ lkX5_isLoaded_1) (fun _ h9 => h9) rfl dX5_isLoaded_20 ?_
    refine lv_iand hx hb dX5_isLoaded_23 ?_
    refine lv_if_eq (tgt := 31) hx hb dX5_isLoaded_24 (by decide) (fun c6 => ?_) (fun c6 => ?_)
    · have h := it_t h c6
      refine lv_iconst (v := 0) hx hb dX5_isLoaded_31 (by decide) ?_
      rw [hQQ]
      exact W.zret (v := 0) hx hb hr (by decide) (fun t ht hW => ⟨_, rfl, Option.some.inj h, ht⟩) (fun q hq => absurd hq List.not_mem_nil) dX5_isLoaded_32
    · have h := it_f h c6
      refine lv_iconst (v := 1) hx hb dX5_isLoaded_27 (by decide) ?_
      refine lv_goto (tgt := 32) hx hb dX5_isLoaded_28 (by decide) ?_
      rw [hQQ]
      exact W.zret (v := 1) hx hb hr (by decide) (fun t ht hW => ⟨_, rfl, Option.some.inj h, ht⟩) (fun q hq => absurd hq List.not_mem_nil) dX5_isLoaded_32

def fX5_touched (N : Nat) (th : Int32) (nd : Int32) (sw : Int32) (so : Int32) (lo : Int32) (cl : Int32) (ea : Int32) (on : Int32) (lg : Int32) (wr : Int32) (pe : Int32) (one : Nat → Int32) (oth : Nat → Int32) (p0 : Int32) (p1 : Int32) : Option ((Int32)) :=
  (if 2 ≤ p0 then some ((1 : Int32) <<< (p1 &&& 31)) else gin p1 24 (gin p1 24 (some (((1 : Int32) <<< ((one p1.toNatClampNeg) &&& 31)) ||| ((1 : Int32) <<< ((oth p1.toNatClampNeg) &&& 31))))))
set_option maxRecDepth 100000 in
theorem inX5_touched_X5 : ∀ w ∈ wsX50, w ∈ wsX5_touched := by decide +kernel
set_option maxRecDepth 100000 in
theorem lkX5_touched_0 : (.fieldLink RX5 7 "SwitchlogModel" "one" "[I" : Cond) ∈ wsX5_touched := by decide +kernel
set_option maxRecDepth 100000 in
theorem lkX5_touched_1 : (.fieldLink RX5 13 "SwitchlogModel" "other" "[I" : Cond) ∈ wsX5_touched := by decide +kernel
abbrev rmX5_touched : Room := { frames := 0, cells := 0, slots := 0, locals := 0 }
set_option maxHeartbeats 4000000 in
set_option maxRecDepth 100000 in
theorem kX5_touched (l : Launch) (D : va_G) (cI cZ cL : ClassId) (h_m a_isb a_log a_seq a_mho a_mih a_far h_one h_oth : Nat) (th : Int32) (nd : Int32) (sw : Int32) (so : Int32) (lo : Int32) (cl : Int32) (ea : Int32) (on : Int32) (lg : Int32) (wr : Int32) (pe : Int32) (one : Nat → Int32) (oth : Nat → Int32) (p0 : Int32) (p1 : Int32) (N : Nat) {r : Int32} (h : fX5_touched N th nd sw so lo cl ea on lg wr pe one oth p0 p1 = some r) : Met l yX5_touched wsX5_touched rmX5_touched (PR D cI cZ cL [.ref h_m, .int p0, .int p1] [(h_m, .inr (5, [.int th, .int nd, .int sw, .int so, .int lo, .ref h_one, .ref h_oth, .ref a_isb, .int cl, .int ea, .int on, .int lg, .ref a_log, .int wr, .ref a_seq, .int pe, .ref a_mho, .ref a_mih, .ref a_far])), (h_one, .inl (cI, 24, .inl one)), (h_oth, .inl (cI, 24, .inl oth))]) (vp_Si (fun z => z = r)) 0 0 (fun _ => False) := by
  refine Met.ofW (cc := cX5_touched) (maxL := 3) (ret := (some .int)) (by decide) rfl ?_
  intro p e s m args below meth c s₁ B hml hv
  obtain ⟨rfl, hP, hKK⟩ := hv
  have hK := hKK.1
  have hx := B.exec
  have hb := B.bytes
  have hr := B.returns
  have hts := atoms_spec (ws := wsX5_touched) B.pre
  have hown : s.vm.findClass RX5 = some m.cls := findClass_of_methodNamed B.named
  have hlocks := B.notSynchronized
  have hl := lv_entry ([.ref h_m, .int p0, .int p1]) (n := 3) (Nat.le_of_ble_eq_true rfl)
  rw [lg_entry_eq]
  generalize (lg_sl ([.ref h_m, .int p0, .int p1]) ++ List.replicate (3 - (lg_sl ([.ref h_m, .int p0, .int p1])).length) Slot.unset).toArray = ls at hl ⊢
  have hl : lv_has ls 3 [(0, .ref h_m), (1, .int p0), (2, .int p1)] := hl
  obtain ⟨QQ, hQQ⟩ : ∃ Z, Z = MQ below (vp_Si (fun z => z = r)) ([.ref h_m, .int p0, .int p1] : List Value).toArray s 0 0 (fun _ => False) := ⟨_, rfl⟩
  rw [← hQQ]
  unfold fX5_touched at h
  refine lv_iload_n hx hb dX5_touched_0 rfl (lv_at hl 1 rfl) ?_
  refine lv_iconst (v := 2) hx hb dX5_touched_1 (by decide) ?_
  refine lv_icmp_ge (tgt := 25) hx hb dX5_touched_2 (by decide) (fun c1 => ?_) (fun c1 => ?_)
  · have h := it_t h c1
    refine lv_iconst (v := 1) hx hb dX5_touched_25 (by decide) ?_
    refine lv_iload_n hx hb dX5_touched_26 rfl (lv_at hl 2 rfl) ?_
    refine lv_ishl hx hb dX5_touched_27 ?_
    rw [hQQ]
    exact W.iret (v := (1 : Int32) <<< (p1 &&& 31)) hx hb hr (fun t ht hW => ⟨_, rfl, Option.some.inj h, ht⟩) (fun q hq => absurd hq List.not_mem_nil) dX5_touched_28
  · have h := it_f h c1
    refine lv_iconst (v := 1) hx hb dX5_touched_5 (by decide) ?_
    refine lv_aload_n hx hb dX5_touched_6 rfl (lv_at hl 0 rfl) ?_
    refine va_get (D := D) (ci := 5) (v := .ref h_one) (C := RX5) (T := TX5) (N := 19) hx hb hts inX5_touched_X5 hown hK hP 0 rfl rfl 5 (by decide) (hts _ lkX5_touched_0) (fun _ h9 => h9) rfl dX5_touched_7 ?_
    refine lv_iload_n hx hb dX5_touched_10 rfl (lv_at hl 2 rfl) ?_
    obtain ⟨hi2, h⟩ := gin_e h
    refine va_iald hx hb hK hP 1 0 rfl rfl hi2 dX5_touched_11 ?_
    refine lv_ishl hx hb dX5_touched_12 ?_
    refine lv_iconst (v := 1) hx hb dX5_touched_13 (by decide) ?_
    refine lv_aload_n hx hb dX5_touched_14 rfl (lv_at hl 0 rfl) ?_
    refine va_get (D := D) (ci := 5) (v := .ref h_oth) (C := RX5) (T := TX5) (N := 19) hx hb hts inX5_touched_X5 hown hK hP 0 rfl rfl 6 (by decide) (hts _ lkX5_touched_1) (fun _ h9 => h9) rfl dX5_touched_15 ?_
    refine lv_iload_n hx hb dX5_touched_18 rfl (lv_at hl 2 rfl) ?_
    obtain ⟨hi3, h⟩ := gin_e h
    refine va_iald hx hb hK hP 2 0 rfl rfl hi3 dX5_touched_19 ?_
    refine lv_ishl hx hb dX5_touched_20 ?_
    refine lv_ior hx hb dX5_touched_21 ?_
    refine lv_goto (tgt := 28) hx hb dX5_touched_22 (by decide) ?_
    rw [hQQ]
    exact W.iret (v := ((1 : Int32) <<< ((one p1.toNatClampNeg) &&& 31)) ||| ((1 : Int32) <<< ((oth p1.toNatClampNeg) &&& 31))) hx hb hr (fun t ht hW => ⟨_, rfl, Option.some.inj h, ht⟩) (fun q hq => absurd hq List.not_mem_nil) dX5_touched_28

def fX5_heldNow (N : Nat) (th : Int32) (nd : Int32) (sw : Int32) (so : Int32) (lo : Int32) (cl : Int32) (ea : Int32) (on : Int32) (lg : Int32) (wr : Int32) (pe : Int32) (mho : Nat → Int32) (mih : Nat → Int32) : Option ((Int32)) :=
  it2 (fun g4_3 (x1 : Int32) (x2 : Int32) => (if pe ≤ x1 then some x2 else gin x1 10 ((if (mih x1.toNatClampNeg) = 0 then g4_3 (x1 + 1) (x2 ||| 0) else gin x1 10 (g4_3 (x1 + 1) (x2 ||| (mho x1.toNatClampNeg))))))) N 0 0
set_option maxRecDepth 100000 in
theorem inX5_heldNow_X5 : ∀ w ∈ wsX50, w ∈ wsX5_heldNow := by decide +kernel
set_option maxRecDepth 100000 in
theorem lkX5_heldNow_0 : (.fieldLink RX5 73 "SwitchlogModel" "permits" "I" : Cond) ∈ wsX5_heldNow := by decide +kernel
set_option maxRecDepth 100000 in
theorem lkX5_heldNow_1 : (.fieldLink RX5 29 "SwitchlogModel" "isHeld" "[Z" : Cond) ∈ wsX5_heldNow := by decide +kernel
set_option maxRecDepth 100000 in
theorem lkX5_heldNow_2 : (.fieldLink RX5 26 "SwitchlogModel" "holds" "[I" : Cond) ∈ wsX5_heldNow := by decide +kernel
abbrev rmX5_heldNow : Room := { frames := 0, cells := 0, slots := 0, locals := 0 }
set_option maxHeartbeats 4000000 in
set_option maxRecDepth 100000 in
theorem kX5_heldNow (l : Launch) (D : va_G) (cI cZ cL : ClassId) (h_m a_one a_oth a_isb a_log a_seq a_far h_mho h_mih : Nat) (th : Int32) (nd : Int32) (sw : Int32) (so : Int32) (lo : Int32) (cl : Int32) (ea : Int32) (on : Int32) (lg : Int32) (wr : Int32) (pe : Int32) (mho : Nat → Int32) (mih : Nat → Int32)  (N : Nat) {r : Int32} (h : fX5_heldNow N th nd sw so lo cl ea on lg wr pe mho mih  = some r) : Met l yX5_heldNow wsX5_heldNow rmX5_heldNow (PR D cI cZ cL [.ref h_m] [(h_m, .inr (5, [.int th, .int nd, .int sw, .int so, .int lo, .ref a_one, .ref a_oth, .ref a_isb, .int cl, .int ea, .int on, .int lg, .ref a_log, .int wr, .ref a_seq, .int pe, .ref h_mho, .ref h_mih, .ref a_far])), (h_mho, .inl (cI, 10, .inl mho)), (h_mih, .inl (cZ, 10, .inl mih))]) (vp_Si (fun z => z = r)) 0 0 (fun _ => False) := by
  refine Met.ofW (cc := cX5_heldNow) (maxL := 3) (ret := (some .int)) (by decide) rfl ?_
  intro p e s m args below meth c s₁ B hml hv
  obtain ⟨rfl, hP, hKK⟩ := hv
  have hK := hKK.1
  have hx := B.exec
  have hb := B.bytes
  have hr := B.returns
  have hts := atoms_spec (ws := wsX5_heldNow) B.pre
  have hown : s.vm.findClass RX5 = some m.cls := findClass_of_methodNamed B.named
  have hlocks := B.notSynchronized
  have hl := lv_entry ([.ref h_m]) (n := 3) (Nat.le_of_ble_eq_true rfl)
  rw [lg_entry_eq]
  generalize (lg_sl ([.ref h_m]) ++ List.replicate (3 - (lg_sl ([.ref h_m])).length) Slot.unset).toArray = ls at hl ⊢
  have hl : lv_has ls 3 [(0, .ref h_m)] := hl
  obtain ⟨QQ, hQQ⟩ : ∃ Z, Z = MQ below (vp_Si (fun z => z = r)) ([.ref h_m] : List Value).toArray s 0 0 (fun _ => False) := ⟨_, rfl⟩
  rw [← hQQ]
  unfold fX5_heldNow at h
  refine lv_iconst (v := 0) hx hb dX5_heldNow_0 (by decide) ?_
  refine lv_istore_n (lv' := [(1, .int 0), (0, .ref h_m)]) hx hb dX5_heldNow_1 rfl hl (by decide) rfl (fun ls hl => ?_)
  refine lv_iconst (v := 0) hx hb dX5_heldNow_2 (by decide) ?_
  refine lv_istore_n (lv' := [(2, .int 0), (1, .int 0), (0, .ref h_m)]) hx hb dX5_heldNow_3 rfl hl (by decide) rfl (fun ls hl => ?_)
  refine it2_e (fun (x1 : Int32) (x2 : Int32) => ∀ ls : Array Slot, lv_has ls 3 [(2, .int x1), (1, .int x2), (0, .ref h_m)] → W p l e (headSpec wsX5_heldNow rmX5_heldNow).room s m (([.ref h_m] : List Value).toArray) below meth c s.heap [] 0 0 QQ (F0 m 4 ls [])) (fun g4_3 hg4_4 x1 x2 h ls hl => ?_) N 0 0 h ls (lv_sub hl [0, 1, 2] rfl)
  refine lv_iload_n hx hb dX5_heldNow_4 rfl (lv_at hl 0 rfl) ?_
  refine lv_aload_n hx hb dX5_heldNow_5 rfl (lv_at hl 2 rfl) ?_
  refine va_get (D := D) (ci := 5) (v := .int pe) (C := RX5) (T := TX5) (N := 19) hx hb hts inX5_heldNow_X5 hown hK hP 0 rfl rfl 15 (by decide) (hts _ lkX5_heldNow_0) (fun _ h9 => h9) rfl dX5_heldNow_6 ?_
  refine lv_icmp_ge (tgt := 40) hx hb dX5_heldNow_9 (by decide) (fun c5 => ?_) (fun c5 => ?_)
  · have h := it_t h c5
    refine lv_iload_n hx hb dX5_heldNow_40 rfl (lv_at hl 1 rfl) ?_
    rw [hQQ]
    exact W.iret (v := x2) hx hb hr (fun t ht hW => ⟨_, rfl, Option.some.inj h, ht⟩) (fun q hq => absurd hq List.not_mem_nil) dX5_heldNow_41
  · have h := it_f h c5
    refine lv_iload_n hx hb dX5_heldNow_12 rfl (lv_at hl 1 rfl) ?_
    refine lv_aload_n hx hb dX5_heldNow_13 rfl (lv_at hl 2 rfl) ?_
    refine va_get (D := D) (ci := 5) (v := .ref h_mih) (C := RX5) (T := TX5) (N := 19) hx hb hts inX5_heldNow_X5 hown hK hP 0 rfl rfl 17 (by decide) (hts _ lkX5_heldNow_1) (fun _ h9 => h9) rfl dX5_heldNow_14 ?_
    refine lv_iload_n hx hb dX5_heldNow_17 rfl (lv_at hl 0 rfl) ?_
    obtain ⟨hi6, h⟩ := gin_e h
    refine va_zald hx hb hK hP 2 1 rfl rfl hi6 dX5_heldNow_18 ?_
    refine lv_if_eq (tgt := 31) hx hb dX5_heldNow_19 (by decide) (fun c7 => ?_) (fun c7 => ?_)
    · have h := it_t h c7
      refine lv_iconst (v := 0) hx hb dX5_heldNow_31 (by decide) ?_
      refine lv_ior hx hb dX5_heldNow_32 ?_
      refine lv_istore_n (lv' := [(1, .int (x2 ||| 0)), (2, .int x1), (0, .ref h_m)]) hx hb dX5_heldNow_33 rfl hl (by decide) rfl (fun ls hl => ?_)
      refine lv_iinc (v := x1 + 1) (lv' := [(2, .int (x1 + 1)), (1, .int (x2 ||| 0)), (0, .ref h_m)]) hx hb dX5_heldNow_34 hl (k := 1) rfl rfl (by decide) rfl (fun ls hl => ?_)
      refine lv_goto (tgt := 4) hx hb dX5_heldNow_37 (by decide) ?_
      exact hg4_4 (x1 + 1) (x2 ||| 0) h ls (lv_sub hl [0, 1, 2] rfl)
    · have h := it_f h c7
      refine lv_aload_n hx hb dX5_heldNow_22 rfl (lv_at hl 2 rfl) ?_
      refine va_get (D := D) (ci := 5) (v := .ref h_mho) (C := RX5) (T := TX5) (N := 19) hx hb hts inX5_heldNow_X5 hown hK hP 0 rfl rfl 16 (by decide) (hts _ lkX5_heldNow_2) (fun _ h9 => h9) rfl dX5_heldNow_23 ?_
      refine lv_iload_n hx hb dX5_heldNow_26 rfl (lv_at hl 0 rfl) ?_
      obtain ⟨hi8, h⟩ := gin_e h
      refine va_iald hx hb hK hP 1 0 rfl rfl hi8 dX5_heldNow_27 ?_
      refine lv_goto (tgt := 32) hx hb dX5_heldNow_28 (by decide) ?_
      refine lv_ior hx hb dX5_heldNow_32 ?_
      refine lv_istore_n (lv' := [(1, .int (x2 ||| (mho x1.toNatClampNeg))), (2, .int x1), (0, .ref h_m)]) hx hb dX5_heldNow_33 rfl hl (by decide) rfl (fun ls hl => ?_)
      refine lv_iinc (v := x1 + 1) (lv' := [(2, .int (x1 + 1)), (1, .int (x2 ||| (mho x1.toNatClampNeg))), (0, .ref h_m)]) hx hb dX5_heldNow_34 hl (k := 1) rfl rfl (by decide) rfl (fun ls hl => ?_)
      refine lv_goto (tgt := 4) hx hb dX5_heldNow_37 (by decide) ?_
      exact hg4_4 (x1 + 1) (x2 ||| (mho x1.toNatClampNeg)) h ls (lv_sub hl [0, 1, 2] rfl)

def fX5_isBarredOpening (N : Nat) (th : Int32) (nd : Int32) (sw : Int32) (so : Int32) (lo : Int32) (cl : Int32) (ea : Int32) (on : Int32) (lg : Int32) (wr : Int32) (pe : Int32) (one : Nat → Int32) (oth : Nat → Int32) (isb : Nat → Int32) (p0 : Int32) : Option ((Int32)) :=
  gin p0 24 (bd1 (fX5_isLoaded N th nd sw so lo cl ea on lg wr pe one oth (one p0.toNatClampNeg) cl) (fun v2 => jn1 (fun (y4 : Int32) => gin p0 24 ((if (isb p0.toNatClampNeg) = 0 then (if y4 = 0 then gin p0 24 (bd1 (fX5_partOf N th nd sw so lo cl ea on lg wr pe one oth (one p0.toNatClampNeg) (cl &&& (((1 : Int32) <<< (p0 &&& 31)) ^^^ (-1)))) (fun v11 => gin p0 24 (bd1 (fX5_has N  v11 (oth p0.toNatClampNeg)) (fun v14 => (if v14 = 0 then some 1 else some 0))))) else some 0) else some 0))) (fun g39_5 => (if v2 = 0 then gin p0 24 (bd1 (fX5_isLoaded N th nd sw so lo cl ea on lg wr pe one oth (oth p0.toNatClampNeg) cl) (fun v19 => (if v19 = 0 then g39_5 1 else g39_5 0))) else g39_5 0))))
set_option maxRecDepth 100000 in
theorem inX5_isBarredOpening_X5 : ∀ w ∈ wsX50, w ∈ wsX5_isBarredOpening := by decide +kernel
set_option maxRecDepth 100000 in
theorem lkX5_isBarredOpening_0 : (.fieldLink RX5 7 "SwitchlogModel" "one" "[I" : Cond) ∈ wsX5_isBarredOpening := by decide +kernel
set_option maxRecDepth 100000 in
theorem lkX5_isBarredOpening_1 : (.fieldLink RX5 76 "SwitchlogModel" "closed" "I" : Cond) ∈ wsX5_isBarredOpening := by decide +kernel
set_option maxRecDepth 100000 in
theorem lkX5_isBarredOpening_2 : (.fieldLink RX5 16 "SwitchlogModel" "isBreaker" "[Z" : Cond) ∈ wsX5_isBarredOpening := by decide +kernel
set_option maxRecDepth 100000 in
theorem lkX5_isBarredOpening_3 : (.fieldLink RX5 13 "SwitchlogModel" "other" "[I" : Cond) ∈ wsX5_isBarredOpening := by decide +kernel
abbrev rmX5_isBarredOpening : Room := { frames := 4, cells := 0, slots := 0, locals := 92 }
set_option maxHeartbeats 4000000 in
set_option maxRecDepth 100000 in
theorem kX5_isBarredOpening (l : Launch) (D : va_G) (cI cZ cL : ClassId) (h_m a_log a_seq a_mho a_mih a_far h_one h_oth h_isb : Nat) (th : Int32) (nd : Int32) (sw : Int32) (so : Int32) (lo : Int32) (cl : Int32) (ea : Int32) (on : Int32) (lg : Int32) (wr : Int32) (pe : Int32) (one : Nat → Int32) (oth : Nat → Int32) (isb : Nat → Int32) (p0 : Int32) (N : Nat) {r : Int32} (h : fX5_isBarredOpening N th nd sw so lo cl ea on lg wr pe one oth isb p0 = some r) : Met l yX5_isBarredOpening wsX5_isBarredOpening rmX5_isBarredOpening (PR D cI cZ cL [.ref h_m, .int p0] [(h_m, .inr (5, [.int th, .int nd, .int sw, .int so, .int lo, .ref h_one, .ref h_oth, .ref h_isb, .int cl, .int ea, .int on, .int lg, .ref a_log, .int wr, .ref a_seq, .int pe, .ref a_mho, .ref a_mih, .ref a_far])), (h_one, .inl (cI, 24, .inl one)), (h_oth, .inl (cI, 24, .inl oth)), (h_isb, .inl (cZ, 24, .inl isb))]) (vp_Si (fun z => z = r)) 0 0 (fun _ => False) := by
  refine Met.ofW (cc := cX5_isBarredOpening) (maxL := 3) (ret := (some .boolean)) (by decide) rfl ?_
  intro p e s m args below meth c s₁ B hml hv
  obtain ⟨rfl, hP, hKK⟩ := hv
  have hK := hKK.1
  have hx := B.exec
  have hb := B.bytes
  have hr := B.returns
  have hts := atoms_spec (ws := wsX5_isBarredOpening) B.pre
  have hown : s.vm.findClass RX5 = some m.cls := findClass_of_methodNamed B.named
  have hlocks := B.notSynchronized
  have hl := lv_entry ([.ref h_m, .int p0]) (n := 3) (Nat.le_of_ble_eq_true rfl)
  rw [lg_entry_eq]
  generalize (lg_sl ([.ref h_m, .int p0]) ++ List.replicate (3 - (lg_sl ([.ref h_m, .int p0])).length) Slot.unset).toArray = ls at hl ⊢
  have hl : lv_has ls 3 [(0, .ref h_m), (1, .int p0)] := hl
  obtain ⟨QQ, hQQ⟩ : ∃ Z, Z = MQ below (vp_Si (fun z => z = r)) ([.ref h_m, .int p0] : List Value).toArray s 0 0 (fun _ => False) := ⟨_, rfl⟩
  rw [← hQQ]
  unfold fX5_isBarredOpening at h
  refine lv_aload_n hx hb dX5_isBarredOpening_0 rfl (lv_at hl 0 rfl) ?_
  refine lv_aload_n hx hb dX5_isBarredOpening_1 rfl (lv_at hl 0 rfl) ?_
  refine va_get (D := D) (ci := 5) (v := .ref h_one) (C := RX5) (T := TX5) (N := 19) hx hb hts inX5_isBarredOpening_X5 hown hK hP 0 rfl rfl 5 (by decide) (hts _ lkX5_isBarredOpening_0) (fun _ h9 => h9) rfl dX5_isBarredOpening_2 ?_
  refine lv_iload_n hx hb dX5_isBarredOpening_5 rfl (lv_at hl 1 rfl) ?_
  obtain ⟨hi1, h⟩ := gin_e h
  refine va_iald hx hb hK hP 1 0 rfl rfl hi1 dX5_isBarredOpening_6 ?_
  refine lv_aload_n hx hb dX5_isBarredOpening_7 rfl (lv_at hl 0 rfl) ?_
  refine va_get (D := D) (ci := 5) (v := .int cl) (C := RX5) (T := TX5) (N := 19) hx hb hts inX5_isBarredOpening_X5 hown hK hP 0 rfl rfl 8 (by decide) (hts _ lkX5_isBarredOpening_1) (fun _ h9 => h9) rfl dX5_isBarredOpening_8 ?_
  obtain ⟨v2, hq3, h⟩ := bd1_e h
  refine zz_cV (As := [.int (one p0.toNatClampNeg), .int cl]) ⟨hx, hb, hml, hown, hts⟩ (kX5_isLoaded l D cI cZ cL h_m h_isb a_log a_seq a_mho a_mih a_far h_one h_oth th nd sw so lo cl ea on lg wr pe one oth (one p0.toNatClampNeg) cl N hq3) (cwV 2 hts gX5_isBarredOpening_X5_isLoaded rfl rfl rfl (by decide +kernel) ⟨Nat.le_of_ble_eq_true rfl, Nat.le_of_ble_eq_true rfl⟩) (hP.sub (ws' := [(h_m, .inr (5, [.int th, .int nd, .int sw, .int so, .int lo, .ref h_one, .ref h_oth, .ref h_isb, .int cl, .int ea, .int on, .int lg, .ref a_log, .int wr, .ref a_seq, .int pe, .ref a_mho, .ref a_mih, .ref a_far])), (h_one, .inl (cI, 24, .inl one)), (h_oth, .inl (cI, 24, .inl oth))]) [0, 1, 2] rfl) hKK (va_recv hK hP (ci := 5) (q0 := 0) rfl rfl) rfl hl.1 rfl (Nat.le_of_ble_eq_true rfl) dX5_isBarredOpening_11 ⟨Nat.le_of_ble_eq_true rfl, Nat.le_of_ble_eq_true rfl⟩ ?_
  refine jn1_e (fun (y4 : Int32) => ∀ ls : Array Slot, lv_has ls 3 [(0, .ref h_m), (1, .int p0)] → W p l e (headSpec wsX5_isBarredOpening rmX5_isBarredOpening).room s m (([.ref h_m, .int p0] : List Value).toArray) below meth c s.heap [] 0 0 QQ (F0 m 39 ls [.int y4])) h (fun y4 h ls hl => ?_) (fun g39_5 hg39_6 h => ?_)
  · refine lv_istore_n (lv' := [(2, .int y4), (0, .ref h_m), (1, .int p0)]) hx hb dX5_isBarredOpening_39 rfl hl (by decide) rfl (fun ls hl => ?_)
    refine lv_aload_n hx hb dX5_isBarredOpening_40 rfl (lv_at hl 1 rfl) ?_
    refine va_get (D := D) (ci := 5) (v := .ref h_isb) (C := RX5) (T := TX5) (N := 19) hx hb hts inX5_isBarredOpening_X5 hown hK hP 0 rfl rfl 7 (by decide) (hts _ lkX5_isBarredOpening_2) (fun _ h9 => h9) rfl dX5_isBarredOpening_41 ?_
    refine lv_iload_n hx hb dX5_isBarredOpening_44 rfl (lv_at hl 2 rfl) ?_
    obtain ⟨hi7, h⟩ := gin_e h
    refine va_zald hx hb hK hP 3 1 rfl rfl hi7 dX5_isBarredOpening_45 ?_
    refine lv_if_ne (tgt := 89) hx hb dX5_isBarredOpening_46 (by decide) (fun c8 => ?_) (fun c8 => ?_)
    · have h := it_f h c8
      refine lv_iconst (v := 0) hx hb dX5_isBarredOpening_89 (by decide) ?_
      rw [hQQ]
      exact W.zret (v := 0) hx hb hr (by decide) (fun t ht hW => ⟨_, rfl, Option.some.inj h, ht⟩) (fun q hq => absurd hq List.not_mem_nil) dX5_isBarredOpening_90
    · have h := it_t h c8
      refine lv_iload_n hx hb dX5_isBarredOpening_49 rfl (lv_at hl 0 rfl) ?_
      refine lv_if_ne (tgt := 89) hx hb dX5_isBarredOpening_50 (by decide) (fun c9 => ?_) (fun c9 => ?_)
      · have h := it_f h c9
        refine lv_iconst (v := 0) hx hb dX5_isBarredOpening_89 (by decide) ?_
        rw [hQQ]
        exact W.zret (v := 0) hx hb hr (by decide) (fun t ht hW => ⟨_, rfl, Option.some.inj h, ht⟩) (fun q hq => absurd hq List.not_mem_nil) dX5_isBarredOpening_90
      · have h := it_t h c9
        refine lv_aload_n hx hb dX5_isBarredOpening_53 rfl (lv_at hl 1 rfl) ?_
        refine lv_aload_n hx hb dX5_isBarredOpening_54 rfl (lv_at hl 1 rfl) ?_
        refine va_get (D := D) (ci := 5) (v := .ref h_one) (C := RX5) (T := TX5) (N := 19) hx hb hts inX5_isBarredOpening_X5 hown hK hP 0 rfl rfl 5 (by decide) (hts _ lkX5_isBarredOpening_0) (fun _ h9 => h9) rfl dX5_isBarredOpening_55 ?_
        refine lv_iload_n hx hb dX5_isBarredOpening_58 rfl (lv_at hl 2 rfl) ?_
        obtain ⟨hi10, h⟩ := gin_e h
        refine va_iald hx hb hK hP 1 0 rfl rfl hi10 dX5_isBarredOpening_59 ?_
        refine lv_aload_n hx hb dX5_isBarredOpening_60 rfl (lv_at hl 1 rfl) ?_
        refine va_get (D := D) (ci := 5) (v := .int cl) (C := RX5) (T := TX5) (N := 19) hx hb hts inX5_isBarredOpening_X5 hown hK hP 0 rfl rfl 8 (by decide) (hts _ lkX5_isBarredOpening_1) (fun _ h9 => h9) rfl dX5_isBarredOpening_61 ?_
        refine lv_iconst (v := 1) hx hb dX5_isBarredOpening_64 (by decide) ?_
        refine lv_iload_n hx hb dX5_isBarredOpening_65 rfl (lv_at hl 2 rfl) ?_
        refine lv_ishl hx hb dX5_isBarredOpening_66 ?_
        refine lv_iconst (v := (-1)) hx hb dX5_isBarredOpening_67 (by decide) ?_
        refine lv_ixor hx hb dX5_isBarredOpening_68 ?_
        refine lv_iand hx hb dX5_isBarredOpening_69 ?_
        obtain ⟨v11, hq12, h⟩ := bd1_e h
        refine zz_cV (As := [.int (one p0.toNatClampNeg), .int (cl &&& (((1 : Int32) <<< (p0 &&& 31)) ^^^ (-1)))]) ⟨hx, hb, hml, hown, hts⟩ (kX5_partOf l D cI cZ cL h_m h_isb a_log a_seq a_mho a_mih a_far h_one h_oth th nd sw so lo cl ea on lg wr pe one oth (one p0.toNatClampNeg) (cl &&& (((1 : Int32) <<< (p0 &&& 31)) ^^^ (-1))) N hq12) (cwV 2 hts gX5_isBarredOpening_X5_partOf rfl rfl rfl (by decide +kernel) ⟨Nat.le_of_ble_eq_true rfl, Nat.le_of_ble_eq_true rfl⟩) (hP.sub (ws' := [(h_m, .inr (5, [.int th, .int nd, .int sw, .int so, .int lo, .ref h_one, .ref h_oth, .ref h_isb, .int cl, .int ea, .int on, .int lg, .ref a_log, .int wr, .ref a_seq, .int pe, .ref a_mho, .ref a_mih, .ref a_far])), (h_one, .inl (cI, 24, .inl one)), (h_oth, .inl (cI, 24, .inl oth))]) [0, 1, 2] rfl) hKK (va_recv hK hP (ci := 5) (q0 := 0) rfl rfl) rfl hl.1 rfl (Nat.le_of_ble_eq_true rfl) dX5_isBarredOpening_70 ⟨Nat.le_of_ble_eq_true rfl, Nat.le_of_ble_eq_true rfl⟩ ?_
        refine lv_aload_n hx hb dX5_isBarredOpening_73 rfl (lv_at hl 1 rfl) ?_
        refine va_get (D := D) (ci := 5) (v := .ref h_oth) (C := RX5) (T := TX5) (N := 19) hx hb hts inX5_isBarredOpening_X5 hown hK hP 0 rfl rfl 6 (by decide) (hts _ lkX5_isBarredOpening_3) (fun _ h9 => h9) rfl dX5_isBarredOpening_74 ?_
        refine lv_iload_n hx hb dX5_isBarredOpening_77 rfl (lv_at hl 2 rfl) ?_
        obtain ⟨hi13, h⟩ := gin_e h
        refine va_iald hx hb hK hP 2 0 rfl rfl hi13 dX5_isBarredOpening_78 ?_
        obtain ⟨v14, hq15, h⟩ := bd1_e h
        refine zz_cS (As := [.int v11, .int (oth p0.toNatClampNeg)]) ⟨hx, hb, hml, hown, hts⟩ (kX5_has l D cI cZ cL v11 (oth p0.toNatClampNeg) N hq15) (va_cwS 2 hts gX5_isBarredOpening_X5_has rfl rfl rfl (by decide +kernel) ⟨Nat.le_of_ble_eq_true rfl, Nat.le_of_ble_eq_true rfl⟩) (hP.sub (ws' := []) [] rfl) hKK rfl hl.1 rfl (Nat.le_of_ble_eq_true rfl) dX5_isBarredOpening_79 ⟨Nat.le_of_ble_eq_true rfl, Nat.le_of_ble_eq_true rfl⟩ ?_
        refine lv_if_ne (tgt := 89) hx hb dX5_isBarredOpening_82 (by decide) (fun c16 => ?_) (fun c16 => ?_)
        · have h := it_f h c16
          refine lv_iconst (v := 0) hx hb dX5_isBarredOpening_89 (by decide) ?_
          rw [hQQ]
          exact W.zret (v := 0) hx hb hr (by decide) (fun t ht hW => ⟨_, rfl, Option.some.inj h, ht⟩) (fun q hq => absurd hq List.not_mem_nil) dX5_isBarredOpening_90
        · have h := it_t h c16
          refine lv_iconst (v := 1) hx hb dX5_isBarredOpening_85 (by decide) ?_
          refine lv_goto (tgt := 90) hx hb dX5_isBarredOpening_86 (by decide) ?_
          rw [hQQ]
          exact W.zret (v := 1) hx hb hr (by decide) (fun t ht hW => ⟨_, rfl, Option.some.inj h, ht⟩) (fun q hq => absurd hq List.not_mem_nil) dX5_isBarredOpening_90
  · refine lv_if_ne (tgt := 38) hx hb dX5_isBarredOpening_14 (by decide) (fun c17 => ?_) (fun c17 => ?_)
    · have h := it_f h c17
      refine lv_iconst (v := 0) hx hb dX5_isBarredOpening_38 (by decide) ?_
      exact hg39_6 0 h ls (lv_sub hl [0, 1] rfl)
    · have h := it_t h c17
      refine lv_aload_n hx hb dX5_isBarredOpening_17 rfl (lv_at hl 0 rfl) ?_
      refine lv_aload_n hx hb dX5_isBarredOpening_18 rfl (lv_at hl 0 rfl) ?_
      refine va_get (D := D) (ci := 5) (v := .ref h_oth) (C := RX5) (T := TX5) (N := 19) hx hb hts inX5_isBarredOpening_X5 hown hK hP 0 rfl rfl 6 (by decide) (hts _ lkX5_isBarredOpening_3) (fun _ h9 => h9) rfl dX5_isBarredOpening_19 ?_
      refine lv_iload_n hx hb dX5_isBarredOpening_22 rfl (lv_at hl 1 rfl) ?_
      obtain ⟨hi18, h⟩ := gin_e h
      refine va_iald hx hb hK hP 2 0 rfl rfl hi18 dX5_isBarredOpening_23 ?_
      refine lv_aload_n hx hb dX5_isBarredOpening_24 rfl (lv_at hl 0 rfl) ?_
      refine va_get (D := D) (ci := 5) (v := .int cl) (C := RX5) (T := TX5) (N := 19) hx hb hts inX5_isBarredOpening_X5 hown hK hP 0 rfl rfl 8 (by decide) (hts _ lkX5_isBarredOpening_1) (fun _ h9 => h9) rfl dX5_isBarredOpening_25 ?_
      obtain ⟨v19, hq20, h⟩ := bd1_e h
      refine zz_cV (As := [.int (oth p0.toNatClampNeg), .int cl]) ⟨hx, hb, hml, hown, hts⟩ (kX5_isLoaded l D cI cZ cL h_m h_isb a_log a_seq a_mho a_mih a_far h_one h_oth th nd sw so lo cl ea on lg wr pe one oth (oth p0.toNatClampNeg) cl N hq20) (cwV 2 hts gX5_isBarredOpening_X5_isLoaded rfl rfl rfl (by decide +kernel) ⟨Nat.le_of_ble_eq_true rfl, Nat.le_of_ble_eq_true rfl⟩) (hP.sub (ws' := [(h_m, .inr (5, [.int th, .int nd, .int sw, .int so, .int lo, .ref h_one, .ref h_oth, .ref h_isb, .int cl, .int ea, .int on, .int lg, .ref a_log, .int wr, .ref a_seq, .int pe, .ref a_mho, .ref a_mih, .ref a_far])), (h_one, .inl (cI, 24, .inl one)), (h_oth, .inl (cI, 24, .inl oth))]) [0, 1, 2] rfl) hKK (va_recv hK hP (ci := 5) (q0 := 0) rfl rfl) rfl hl.1 rfl (Nat.le_of_ble_eq_true rfl) dX5_isBarredOpening_28 ⟨Nat.le_of_ble_eq_true rfl, Nat.le_of_ble_eq_true rfl⟩ ?_
      refine lv_if_ne (tgt := 38) hx hb dX5_isBarredOpening_31 (by decide) (fun c21 => ?_) (fun c21 => ?_)
      · have h := it_f h c21
        refine lv_iconst (v := 0) hx hb dX5_isBarredOpening_38 (by decide) ?_
        exact hg39_6 0 h ls (lv_sub hl [0, 1] rfl)
      · have h := it_t h c21
        refine lv_iconst (v := 1) hx hb dX5_isBarredOpening_34 (by decide) ?_
        refine lv_goto (tgt := 39) hx hb dX5_isBarredOpening_35 (by decide) ?_
        exact hg39_6 1 h ls (lv_sub hl [0, 1] rfl)

def fX5_isBarredClosing (N : Nat) (th : Int32) (nd : Int32) (sw : Int32) (so : Int32) (lo : Int32) (cl : Int32) (ea : Int32) (on : Int32) (lg : Int32) (wr : Int32) (pe : Int32) (one : Nat → Int32) (oth : Nat → Int32) (isb : Nat → Int32) (p0 : Int32) : Option ((Int32)) :=
  gin p0 24 (bd1 (fX5_isLive N th nd sw so lo cl ea on lg wr pe one oth (one p0.toNatClampNeg) cl on) (fun v2 => jn1 (fun (y4 : Int32) => gin p0 24 (bd1 (fX5_isLive N th nd sw so lo cl ea on lg wr pe one oth (oth p0.toNatClampNeg) cl on) (fun v8 => jn1 (fun (y10 : Int32) => gin p0 24 (bd1 (fX5_partOf N th nd sw so lo cl ea on lg wr pe one oth (one p0.toNatClampNeg) cl) (fun v14 => gin p0 24 (bd1 (fX5_has N  v14 (oth p0.toNatClampNeg)) (fun v17 => jn1 (fun (y19 : Int32) => (if y4 = 0 then (if y10 = 0 then gin p0 24 ((if (isb p0.toNatClampNeg) = 0 then (if y19 = 0 then some 1 else some 0) else some 0)) else some 1) else some 1)) (fun g167_20 => (if v17 = 0 then gin p0 24 (bd1 (fX5_isLoaded N th nd sw so lo cl ea on lg wr pe one oth (one p0.toNatClampNeg) (cl ||| ((1 : Int32) <<< (p0 &&& 31)))) (fun v29 => (if v29 = 0 then gin p0 24 (bd1 (fX5_isLoaded N th nd sw so lo cl ea on lg wr pe one oth (oth p0.toNatClampNeg) (cl ||| ((1 : Int32) <<< (p0 &&& 31)))) (fun v33 => (if v33 = 0 then g167_20 1 else g167_20 0))) else g167_20 0))) else g167_20 1))))))) (fun g95_11 => (if v8 = 0 then g95_11 0 else gin p0 24 (bd1 (fX5_isEarthed N th nd sw so lo cl ea on lg wr pe one oth (one p0.toNatClampNeg) cl ea) (fun v38 => (if v38 = 0 then g95_11 0 else g95_11 1)))))))) (fun g47_5 => (if v2 = 0 then g47_5 0 else gin p0 24 (bd1 (fX5_isEarthed N th nd sw so lo cl ea on lg wr pe one oth (oth p0.toNatClampNeg) cl ea) (fun v43 => (if v43 = 0 then g47_5 0 else g47_5 1)))))))
set_option maxRecDepth 100000 in
theorem inX5_isBarredClosing_X5 : ∀ w ∈ wsX50, w ∈ wsX5_isBarredClosing := by decide +kernel
set_option maxRecDepth 100000 in
theorem lkX5_isBarredClosing_0 : (.fieldLink RX5 7 "SwitchlogModel" "one" "[I" : Cond) ∈ wsX5_isBarredClosing := by decide +kernel
set_option maxRecDepth 100000 in
theorem lkX5_isBarredClosing_1 : (.fieldLink RX5 76 "SwitchlogModel" "closed" "I" : Cond) ∈ wsX5_isBarredClosing := by decide +kernel
set_option maxRecDepth 100000 in
theorem lkX5_isBarredClosing_2 : (.fieldLink RX5 67 "SwitchlogModel" "on" "I" : Cond) ∈ wsX5_isBarredClosing := by decide +kernel
set_option maxRecDepth 100000 in
theorem lkX5_isBarredClosing_3 : (.fieldLink RX5 13 "SwitchlogModel" "other" "[I" : Cond) ∈ wsX5_isBarredClosing := by decide +kernel
set_option maxRecDepth 100000 in
theorem lkX5_isBarredClosing_4 : (.fieldLink RX5 16 "SwitchlogModel" "isBreaker" "[Z" : Cond) ∈ wsX5_isBarredClosing := by decide +kernel
set_option maxRecDepth 100000 in
theorem lkX5_isBarredClosing_5 : (.fieldLink RX5 79 "SwitchlogModel" "earths" "I" : Cond) ∈ wsX5_isBarredClosing := by decide +kernel
abbrev rmX5_isBarredClosing : Room := { frames := 4, cells := 0, slots := 0, locals := 92 }
set_option maxHeartbeats 4000000 in
set_option maxRecDepth 100000 in
theorem kX5_isBarredClosing (l : Launch) (D : va_G) (cI cZ cL : ClassId) (h_m a_log a_seq a_mho a_mih a_far h_one h_oth h_isb : Nat) (th : Int32) (nd : Int32) (sw : Int32) (so : Int32) (lo : Int32) (cl : Int32) (ea : Int32) (on : Int32) (lg : Int32) (wr : Int32) (pe : Int32) (one : Nat → Int32) (oth : Nat → Int32) (isb : Nat → Int32) (p0 : Int32) (N : Nat) {r : Int32} (h : fX5_isBarredClosing N th nd sw so lo cl ea on lg wr pe one oth isb p0 = some r) : Met l yX5_isBarredClosing wsX5_isBarredClosing rmX5_isBarredClosing (PR D cI cZ cL [.ref h_m, .int p0] [(h_m, .inr (5, [.int th, .int nd, .int sw, .int so, .int lo, .ref h_one, .ref h_oth, .ref h_isb, .int cl, .int ea, .int on, .int lg, .ref a_log, .int wr, .ref a_seq, .int pe, .ref a_mho, .ref a_mih, .ref a_far])), (h_one, .inl (cI, 24, .inl one)), (h_oth, .inl (cI, 24, .inl oth)), (h_isb, .inl (cZ, 24, .inl isb))]) (vp_Si (fun z => z = r)) 0 0 (fun _ => False) := by
  refine Met.ofW (cc := cX5_isBarredClosing) (maxL := 6) (ret := (some .boolean)) (by decide) rfl ?_
  intro p e s m args below meth c s₁ B hml hv
  obtain ⟨rfl, hP, hKK⟩ := hv
  have hK := hKK.1
  have hx := B.exec
  have hb := B.bytes
  have hr := B.returns
  have hts := atoms_spec (ws := wsX5_isBarredClosing) B.pre
  have hown : s.vm.findClass RX5 = some m.cls := findClass_of_methodNamed B.named
  have hlocks := B.notSynchronized
  have hl := lv_entry ([.ref h_m, .int p0]) (n := 6) (Nat.le_of_ble_eq_true rfl)
  rw [lg_entry_eq]
  generalize (lg_sl ([.ref h_m, .int p0]) ++ List.replicate (6 - (lg_sl ([.ref h_m, .int p0])).length) Slot.unset).toArray = ls at hl ⊢
  have hl : lv_has ls 6 [(0, .ref h_m), (1, .int p0)] := hl
  obtain ⟨QQ, hQQ⟩ : ∃ Z, Z = MQ below (vp_Si (fun z => z = r)) ([.ref h_m, .int p0] : List Value).toArray s 0 0 (fun _ => False) := ⟨_, rfl⟩
  rw [← hQQ]
  unfold fX5_isBarredClosing at h
  refine lv_aload_n hx hb dX5_isBarredClosing_0 rfl (lv_at hl 0 rfl) ?_
  refine lv_aload_n hx hb dX5_isBarredClosing_1 rfl (lv_at hl 0 rfl) ?_
  refine va_get (D := D) (ci := 5) (v := .ref h_one) (C := RX5) (T := TX5) (N := 19) hx hb hts inX5_isBarredClosing_X5 hown hK hP 0 rfl rfl 5 (by decide) (hts _ lkX5_isBarredClosing_0) (fun _ h9 => h9) rfl dX5_isBarredClosing_2 ?_
  refine lv_iload_n hx hb dX5_isBarredClosing_5 rfl (lv_at hl 1 rfl) ?_
  obtain ⟨hi1, h⟩ := gin_e h
  refine va_iald hx hb hK hP 1 0 rfl rfl hi1 dX5_isBarredClosing_6 ?_
  refine lv_aload_n hx hb dX5_isBarredClosing_7 rfl (lv_at hl 0 rfl) ?_
  refine va_get (D := D) (ci := 5) (v := .int cl) (C := RX5) (T := TX5) (N := 19) hx hb hts inX5_isBarredClosing_X5 hown hK hP 0 rfl rfl 8 (by decide) (hts _ lkX5_isBarredClosing_1) (fun _ h9 => h9) rfl dX5_isBarredClosing_8 ?_
  refine lv_aload_n hx hb dX5_isBarredClosing_11 rfl (lv_at hl 0 rfl) ?_
  refine va_get (D := D) (ci := 5) (v := .int on) (C := RX5) (T := TX5) (N := 19) hx hb hts inX5_isBarredClosing_X5 hown hK hP 0 rfl rfl 10 (by decide) (hts _ lkX5_isBarredClosing_2) (fun _ h9 => h9) rfl dX5_isBarredClosing_12 ?_
  obtain ⟨v2, hq3, h⟩ := bd1_e h
  refine zz_cV (As := [.int (one p0.toNatClampNeg), .int cl, .int on]) ⟨hx, hb, hml, hown, hts⟩ (kX5_isLive l D cI cZ cL h_m h_isb a_log a_seq a_mho a_mih a_far h_one h_oth th nd sw so lo cl ea on lg wr pe one oth (one p0.toNatClampNeg) cl on N hq3) (cwV 3 hts gX5_isBarredClosing_X5_isLive rfl rfl rfl (by decide +kernel) ⟨Nat.le_of_ble_eq_true rfl, Nat.le_of_ble_eq_true rfl⟩) (hP.sub (ws' := [(h_m, .inr (5, [.int th, .int nd, .int sw, .int so, .int lo, .ref h_one, .ref h_oth, .ref h_isb, .int cl, .int ea, .int on, .int lg, .ref a_log, .int wr, .ref a_seq, .int pe, .ref a_mho, .ref a_mih, .ref a_far])), (h_one, .inl (cI, 24, .inl one)), (h_oth, .inl (cI, 24, .inl oth))]) [0, 1, 2] rfl) hKK (va_recv hK hP (ci := 5) (q0 := 0) rfl rfl) rfl hl.1 rfl (Nat.le_of_ble_eq_true rfl) dX5_isBarredClosing_15 ⟨Nat.le_of_ble_eq_true rfl, Nat.le_of_ble_eq_true rfl⟩ ?_
  refine jn1_e (fun (y4 : Int32) => ∀ ls : Array Slot, lv_has ls 6 [(0, .ref h_m), (1, .int p0)] → W p l e (headSpec wsX5_isBarredClosing rmX5_isBarredClosing).room s m (([.ref h_m, .int p0] : List Value).toArray) below meth c s.heap [] 0 0 QQ (F0 m 47 ls [.int y4])) h (fun y4 h ls hl => ?_) (fun g47_5 hg47_6 h => ?_)
  · refine lv_istore_n (lv' := [(2, .int y4), (0, .ref h_m), (1, .int p0)]) hx hb dX5_isBarredClosing_47 rfl hl (by decide) rfl (fun ls hl => ?_)
    refine lv_aload_n hx hb dX5_isBarredClosing_48 rfl (lv_at hl 1 rfl) ?_
    refine lv_aload_n hx hb dX5_isBarredClosing_49 rfl (lv_at hl 1 rfl) ?_
    refine va_get (D := D) (ci := 5) (v := .ref h_oth) (C := RX5) (T := TX5) (N := 19) hx hb hts inX5_isBarredClosing_X5 hown hK hP 0 rfl rfl 6 (by decide) (hts _ lkX5_isBarredClosing_3) (fun _ h9 => h9) rfl dX5_isBarredClosing_50 ?_
    refine lv_iload_n hx hb dX5_isBarredClosing_53 rfl (lv_at hl 2 rfl) ?_
    obtain ⟨hi7, h⟩ := gin_e h
    refine va_iald hx hb hK hP 2 0 rfl rfl hi7 dX5_isBarredClosing_54 ?_
    refine lv_aload_n hx hb dX5_isBarredClosing_55 rfl (lv_at hl 1 rfl) ?_
    refine va_get (D := D) (ci := 5) (v := .int cl) (C := RX5) (T := TX5) (N := 19) hx hb hts inX5_isBarredClosing_X5 hown hK hP 0 rfl rfl 8 (by decide) (hts _ lkX5_isBarredClosing_1) (fun _ h9 => h9) rfl dX5_isBarredClosing_56 ?_
    refine lv_aload_n hx hb dX5_isBarredClosing_59 rfl (lv_at hl 1 rfl) ?_
    refine va_get (D := D) (ci := 5) (v := .int on) (C := RX5) (T := TX5) (N := 19) hx hb hts inX5_isBarredClosing_X5 hown hK hP 0 rfl rfl 10 (by decide) (hts _ lkX5_isBarredClosing_2) (fun _ h9 => h9) rfl dX5_isBarredClosing_60 ?_
    obtain ⟨v8, hq9, h⟩ := bd1_e h
    refine zz_cV (As := [.int (oth p0.toNatClampNeg), .int cl, .int on]) ⟨hx, hb, hml, hown, hts⟩ (kX5_isLive l D cI cZ cL h_m h_isb a_log a_seq a_mho a_mih a_far h_one h_oth th nd sw so lo cl ea on lg wr pe one oth (oth p0.toNatClampNeg) cl on N hq9) (cwV 3 hts gX5_isBarredClosing_X5_isLive rfl rfl rfl (by decide +kernel) ⟨Nat.le_of_ble_eq_true rfl, Nat.le_of_ble_eq_true rfl⟩) (hP.sub (ws' := [(h_m, .inr (5, [.int th, .int nd, .int sw, .int so, .int lo, .ref h_one, .ref h_oth, .ref h_isb, .int cl, .int ea, .int on, .int lg, .ref a_log, .int wr, .ref a_seq, .int pe, .ref a_mho, .ref a_mih, .ref a_far])), (h_one, .inl (cI, 24, .inl one)), (h_oth, .inl (cI, 24, .inl oth))]) [0, 1, 2] rfl) hKK (va_recv hK hP (ci := 5) (q0 := 0) rfl rfl) rfl hl.1 rfl (Nat.le_of_ble_eq_true rfl) dX5_isBarredClosing_63 ⟨Nat.le_of_ble_eq_true rfl, Nat.le_of_ble_eq_true rfl⟩ ?_
    refine jn1_e (fun (y10 : Int32) => ∀ ls : Array Slot, lv_has ls 6 [(2, .int y4), (0, .ref h_m), (1, .int p0)] → W p l e (headSpec wsX5_isBarredClosing rmX5_isBarredClosing).room s m (([.ref h_m, .int p0] : List Value).toArray) below meth c s.heap [] 0 0 QQ (F0 m 95 ls [.int y10])) h (fun y10 h ls hl => ?_) (fun g95_11 hg95_12 h => ?_)
    · refine lv_istore_n (lv' := [(3, .int y10), (2, .int y4), (0, .ref h_m), (1, .int p0)]) hx hb dX5_isBarredClosing_95 rfl hl (by decide) rfl (fun ls hl => ?_)
      refine lv_aload_n hx hb dX5_isBarredClosing_96 rfl (lv_at hl 2 rfl) ?_
      refine va_get (D := D) (ci := 5) (v := .int cl) (C := RX5) (T := TX5) (N := 19) hx hb hts inX5_isBarredClosing_X5 hown hK hP 0 rfl rfl 8 (by decide) (hts _ lkX5_isBarredClosing_1) (fun _ h9 => h9) rfl dX5_isBarredClosing_97 ?_
      refine lv_iconst (v := 1) hx hb dX5_isBarredClosing_100 (by decide) ?_
      refine lv_iload_n hx hb dX5_isBarredClosing_101 rfl (lv_at hl 3 rfl) ?_
      refine lv_ishl hx hb dX5_isBarredClosing_102 ?_
      refine lv_ior hx hb dX5_isBarredClosing_103 ?_
      refine lv_istore (lv' := [(4, .int (cl ||| ((1 : Int32) <<< (p0 &&& 31)))), (3, .int y10), (2, .int y4), (0, .ref h_m), (1, .int p0)]) hx hb dX5_isBarredClosing_104 hl (by decide) rfl (fun ls hl => ?_)
      refine lv_aload_n hx hb dX5_isBarredClosing_106 rfl (lv_at hl 3 rfl) ?_
      refine lv_aload_n hx hb dX5_isBarredClosing_107 rfl (lv_at hl 3 rfl) ?_
      refine va_get (D := D) (ci := 5) (v := .ref h_one) (C := RX5) (T := TX5) (N := 19) hx hb hts inX5_isBarredClosing_X5 hown hK hP 0 rfl rfl 5 (by decide) (hts _ lkX5_isBarredClosing_0) (fun _ h9 => h9) rfl dX5_isBarredClosing_108 ?_
      refine lv_iload_n hx hb dX5_isBarredClosing_111 rfl (lv_at hl 4 rfl) ?_
      obtain ⟨hi13, h⟩ := gin_e h
      refine va_iald hx hb hK hP 1 0 rfl rfl hi13 dX5_isBarredClosing_112 ?_
      refine lv_aload_n hx hb dX5_isBarredClosing_113 rfl (lv_at hl 3 rfl) ?_
      refine va_get (D := D) (ci := 5) (v := .int cl) (C := RX5) (T := TX5) (N := 19) hx hb hts inX5_isBarredClosing_X5 hown hK hP 0 rfl rfl 8 (by decide) (hts _ lkX5_isBarredClosing_1) (fun _ h9 => h9) rfl dX5_isBarredClosing_114 ?_
      obtain ⟨v14, hq15, h⟩ := bd1_e h
      refine zz_cV (As := [.int (one p0.toNatClampNeg), .int cl]) ⟨hx, hb, hml, hown, hts⟩ (kX5_partOf l D cI cZ cL h_m h_isb a_log a_seq a_mho a_mih a_far h_one h_oth th nd sw so lo cl ea on lg wr pe one oth (one p0.toNatClampNeg) cl N hq15) (cwV 2 hts gX5_isBarredClosing_X5_partOf rfl rfl rfl (by decide +kernel) ⟨Nat.le_of_ble_eq_true rfl, Nat.le_of_ble_eq_true rfl⟩) (hP.sub (ws' := [(h_m, .inr (5, [.int th, .int nd, .int sw, .int so, .int lo, .ref h_one, .ref h_oth, .ref h_isb, .int cl, .int ea, .int on, .int lg, .ref a_log, .int wr, .ref a_seq, .int pe, .ref a_mho, .ref a_mih, .ref a_far])), (h_one, .inl (cI, 24, .inl one)), (h_oth, .inl (cI, 24, .inl oth))]) [0, 1, 2] rfl) hKK (va_recv hK hP (ci := 5) (q0 := 0) rfl rfl) rfl hl.1 rfl (Nat.le_of_ble_eq_true rfl) dX5_isBarredClosing_117 ⟨Nat.le_of_ble_eq_true rfl, Nat.le_of_ble_eq_true rfl⟩ ?_
      refine lv_aload_n hx hb dX5_isBarredClosing_120 rfl (lv_at hl 3 rfl) ?_
      refine va_get (D := D) (ci := 5) (v := .ref h_oth) (C := RX5) (T := TX5) (N := 19) hx hb hts inX5_isBarredClosing_X5 hown hK hP 0 rfl rfl 6 (by decide) (hts _ lkX5_isBarredClosing_3) (fun _ h9 => h9) rfl dX5_isBarredClosing_121 ?_
      refine lv_iload_n hx hb dX5_isBarredClosing_124 rfl (lv_at hl 4 rfl) ?_
      obtain ⟨hi16, h⟩ := gin_e h
      refine va_iald hx hb hK hP 2 0 rfl rfl hi16 dX5_isBarredClosing_125 ?_
      obtain ⟨v17, hq18, h⟩ := bd1_e h
      refine zz_cS (As := [.int v14, .int (oth p0.toNatClampNeg)]) ⟨hx, hb, hml, hown, hts⟩ (kX5_has l D cI cZ cL v14 (oth p0.toNatClampNeg) N hq18) (va_cwS 2 hts gX5_isBarredClosing_X5_has rfl rfl rfl (by decide +kernel) ⟨Nat.le_of_ble_eq_true rfl, Nat.le_of_ble_eq_true rfl⟩) (hP.sub (ws' := []) [] rfl) hKK rfl hl.1 rfl (Nat.le_of_ble_eq_true rfl) dX5_isBarredClosing_126 ⟨Nat.le_of_ble_eq_true rfl, Nat.le_of_ble_eq_true rfl⟩ ?_
      refine jn1_e (fun (y19 : Int32) => ∀ ls : Array Slot, lv_has ls 6 [(4, .int (cl ||| ((1 : Int32) <<< (p0 &&& 31)))), (3, .int y10), (2, .int y4), (0, .ref h_m), (1, .int p0)] → W p l e (headSpec wsX5_isBarredClosing rmX5_isBarredClosing).room s m (([.ref h_m, .int p0] : List Value).toArray) below meth c s.heap [] 0 0 QQ (F0 m 167 ls [.int y19])) h (fun y19 h ls hl => ?_) (fun g167_20 hg167_21 h => ?_)
      · refine lv_istore (lv' := [(5, .int y19), (4, .int (cl ||| ((1 : Int32) <<< (p0 &&& 31)))), (3, .int y10), (2, .int y4), (0, .ref h_m), (1, .int p0)]) hx hb dX5_isBarredClosing_167 hl (by decide) rfl (fun ls hl => ?_)
        refine lv_iload_n hx hb dX5_isBarredClosing_169 rfl (lv_at hl 3 rfl) ?_
        refine lv_if_ne (tgt := 191) hx hb dX5_isBarredClosing_170 (by decide) (fun c22 => ?_) (fun c22 => ?_)
        · have h := it_f h c22
          refine lv_iconst (v := 1) hx hb dX5_isBarredClosing_191 (by decide) ?_
          refine lv_goto (tgt := 196) hx hb dX5_isBarredClosing_192 (by decide) ?_
          rw [hQQ]
          exact W.zret (v := 1) hx hb hr (by decide) (fun t ht hW => ⟨_, rfl, Option.some.inj h, ht⟩) (fun q hq => absurd hq List.not_mem_nil) dX5_isBarredClosing_196
        · have h := it_t h c22
          refine lv_iload_n hx hb dX5_isBarredClosing_173 rfl (lv_at hl 2 rfl) ?_
          refine lv_if_ne (tgt := 191) hx hb dX5_isBarredClosing_174 (by decide) (fun c23 => ?_) (fun c23 => ?_)
          · have h := it_f h c23
            refine lv_iconst (v := 1) hx hb dX5_isBarredClosing_191 (by decide) ?_
            refine lv_goto (tgt := 196) hx hb dX5_isBarredClosing_192 (by decide) ?_
            rw [hQQ]
            exact W.zret (v := 1) hx hb hr (by decide) (fun t ht hW => ⟨_, rfl, Option.some.inj h, ht⟩) (fun q hq => absurd hq List.not_mem_nil) dX5_isBarredClosing_196
          · have h := it_t h c23
            refine lv_aload_n hx hb dX5_isBarredClosing_177 rfl (lv_at hl 4 rfl) ?_
            refine va_get (D := D) (ci := 5) (v := .ref h_isb) (C := RX5) (T := TX5) (N := 19) hx hb hts inX5_isBarredClosing_X5 hown hK hP 0 rfl rfl 7 (by decide) (hts _ lkX5_isBarredClosing_4) (fun _ h9 => h9) rfl dX5_isBarredClosing_178 ?_
            refine lv_iload_n hx hb dX5_isBarredClosing_181 rfl (lv_at hl 5 rfl) ?_
            obtain ⟨hi24, h⟩ := gin_e h
            refine va_zald hx hb hK hP 3 1 rfl rfl hi24 dX5_isBarredClosing_182 ?_
            refine lv_if_ne (tgt := 195) hx hb dX5_isBarredClosing_183 (by decide) (fun c25 => ?_) (fun c25 => ?_)
            · have h := it_f h c25
              refine lv_iconst (v := 0) hx hb dX5_isBarredClosing_195 (by decide) ?_
              rw [hQQ]
              exact W.zret (v := 0) hx hb hr (by decide) (fun t ht hW => ⟨_, rfl, Option.some.inj h, ht⟩) (fun q hq => absurd hq List.not_mem_nil) dX5_isBarredClosing_196
            · have h := it_t h c25
              refine lv_iload hx hb dX5_isBarredClosing_186 (lv_at hl 0 rfl) ?_
              refine lv_if_ne (tgt := 195) hx hb dX5_isBarredClosing_188 (by decide) (fun c26 => ?_) (fun c26 => ?_)
              · have h := it_f h c26
                refine lv_iconst (v := 0) hx hb dX5_isBarredClosing_195 (by decide) ?_
                rw [hQQ]
                exact W.zret (v := 0) hx hb hr (by decide) (fun t ht hW => ⟨_, rfl, Option.some.inj h, ht⟩) (fun q hq => absurd hq List.not_mem_nil) dX5_isBarredClosing_196
              · have h := it_t h c26
                refine lv_iconst (v := 1) hx hb dX5_isBarredClosing_191 (by decide) ?_
                refine lv_goto (tgt := 196) hx hb dX5_isBarredClosing_192 (by decide) ?_
                rw [hQQ]
                exact W.zret (v := 1) hx hb hr (by decide) (fun t ht hW => ⟨_, rfl, Option.some.inj h, ht⟩) (fun q hq => absurd hq List.not_mem_nil) dX5_isBarredClosing_196
      · refine lv_if_ne (tgt := 162) hx hb dX5_isBarredClosing_129 (by decide) (fun c27 => ?_) (fun c27 => ?_)
        · have h := it_f h c27
          refine lv_iconst (v := 1) hx hb dX5_isBarredClosing_162 (by decide) ?_
          refine lv_goto (tgt := 167) hx hb dX5_isBarredClosing_163 (by decide) ?_
          exact hg167_21 1 h ls (lv_sub hl [0, 1, 2, 3, 4] rfl)
        · have h := it_t h c27
          refine lv_aload_n hx hb dX5_isBarredClosing_132 rfl (lv_at hl 3 rfl) ?_
          refine lv_aload_n hx hb dX5_isBarredClosing_133 rfl (lv_at hl 3 rfl) ?_
          refine va_get (D := D) (ci := 5) (v := .ref h_one) (C := RX5) (T := TX5) (N := 19) hx hb hts inX5_isBarredClosing_X5 hown hK hP 0 rfl rfl 5 (by decide) (hts _ lkX5_isBarredClosing_0) (fun _ h9 => h9) rfl dX5_isBarredClosing_134 ?_
          refine lv_iload_n hx hb dX5_isBarredClosing_137 rfl (lv_at hl 4 rfl) ?_
          obtain ⟨hi28, h⟩ := gin_e h
          refine va_iald hx hb hK hP 1 0 rfl rfl hi28 dX5_isBarredClosing_138 ?_
          refine lv_iload hx hb dX5_isBarredClosing_139 (lv_at hl 0 rfl) ?_
          obtain ⟨v29, hq30, h⟩ := bd1_e h
          refine zz_cV (As := [.int (one p0.toNatClampNeg), .int (cl ||| ((1 : Int32) <<< (p0 &&& 31)))]) ⟨hx, hb, hml, hown, hts⟩ (kX5_isLoaded l D cI cZ cL h_m h_isb a_log a_seq a_mho a_mih a_far h_one h_oth th nd sw so lo cl ea on lg wr pe one oth (one p0.toNatClampNeg) (cl ||| ((1 : Int32) <<< (p0 &&& 31))) N hq30) (cwV 2 hts gX5_isBarredClosing_X5_isLoaded rfl rfl rfl (by decide +kernel) ⟨Nat.le_of_ble_eq_true rfl, Nat.le_of_ble_eq_true rfl⟩) (hP.sub (ws' := [(h_m, .inr (5, [.int th, .int nd, .int sw, .int so, .int lo, .ref h_one, .ref h_oth, .ref h_isb, .int cl, .int ea, .int on, .int lg, .ref a_log, .int wr, .ref a_seq, .int pe, .ref a_mho, .ref a_mih, .ref a_far])), (h_one, .inl (cI, 24, .inl one)), (h_oth, .inl (cI, 24, .inl oth))]) [0, 1, 2] rfl) hKK (va_recv hK hP (ci := 5) (q0 := 0) rfl rfl) rfl hl.1 rfl (Nat.le_of_ble_eq_true rfl) dX5_isBarredClosing_141 ⟨Nat.le_of_ble_eq_true rfl, Nat.le_of_ble_eq_true rfl⟩ ?_
          refine lv_if_ne (tgt := 166) hx hb dX5_isBarredClosing_144 (by decide) (fun c31 => ?_) (fun c31 => ?_)
          · have h := it_f h c31
            refine lv_iconst (v := 0) hx hb dX5_isBarredClosing_166 (by decide) ?_
            exact hg167_21 0 h ls (lv_sub hl [0, 1, 2, 3, 4] rfl)
          · have h := it_t h c31
            refine lv_aload_n hx hb dX5_isBarredClosing_147 rfl (lv_at hl 3 rfl) ?_
            refine lv_aload_n hx hb dX5_isBarredClosing_148 rfl (lv_at hl 3 rfl) ?_
            refine va_get (D := D) (ci := 5) (v := .ref h_oth) (C := RX5) (T := TX5) (N := 19) hx hb hts inX5_isBarredClosing_X5 hown hK hP 0 rfl rfl 6 (by decide) (hts _ lkX5_isBarredClosing_3) (fun _ h9 => h9) rfl dX5_isBarredClosing_149 ?_
            refine lv_iload_n hx hb dX5_isBarredClosing_152 rfl (lv_at hl 4 rfl) ?_
            obtain ⟨hi32, h⟩ := gin_e h
            refine va_iald hx hb hK hP 2 0 rfl rfl hi32 dX5_isBarredClosing_153 ?_
            refine lv_iload hx hb dX5_isBarredClosing_154 (lv_at hl 0 rfl) ?_
            obtain ⟨v33, hq34, h⟩ := bd1_e h
            refine zz_cV (As := [.int (oth p0.toNatClampNeg), .int (cl ||| ((1 : Int32) <<< (p0 &&& 31)))]) ⟨hx, hb, hml, hown, hts⟩ (kX5_isLoaded l D cI cZ cL h_m h_isb a_log a_seq a_mho a_mih a_far h_one h_oth th nd sw so lo cl ea on lg wr pe one oth (oth p0.toNatClampNeg) (cl ||| ((1 : Int32) <<< (p0 &&& 31))) N hq34) (cwV 2 hts gX5_isBarredClosing_X5_isLoaded rfl rfl rfl (by decide +kernel) ⟨Nat.le_of_ble_eq_true rfl, Nat.le_of_ble_eq_true rfl⟩) (hP.sub (ws' := [(h_m, .inr (5, [.int th, .int nd, .int sw, .int so, .int lo, .ref h_one, .ref h_oth, .ref h_isb, .int cl, .int ea, .int on, .int lg, .ref a_log, .int wr, .ref a_seq, .int pe, .ref a_mho, .ref a_mih, .ref a_far])), (h_one, .inl (cI, 24, .inl one)), (h_oth, .inl (cI, 24, .inl oth))]) [0, 1, 2] rfl) hKK (va_recv hK hP (ci := 5) (q0 := 0) rfl rfl) rfl hl.1 rfl (Nat.le_of_ble_eq_true rfl) dX5_isBarredClosing_156 ⟨Nat.le_of_ble_eq_true rfl, Nat.le_of_ble_eq_true rfl⟩ ?_
            refine lv_if_ne (tgt := 166) hx hb dX5_isBarredClosing_159 (by decide) (fun c35 => ?_) (fun c35 => ?_)
            · have h := it_f h c35
              refine lv_iconst (v := 0) hx hb dX5_isBarredClosing_166 (by decide) ?_
              exact hg167_21 0 h ls (lv_sub hl [0, 1, 2, 3, 4] rfl)
            · have h := it_t h c35
              refine lv_iconst (v := 1) hx hb dX5_isBarredClosing_162 (by decide) ?_
              refine lv_goto (tgt := 167) hx hb dX5_isBarredClosing_163 (by decide) ?_
              exact hg167_21 1 h ls (lv_sub hl [0, 1, 2, 3, 4] rfl)
    · refine lv_if_eq (tgt := 94) hx hb dX5_isBarredClosing_66 (by decide) (fun c36 => ?_) (fun c36 => ?_)
      · have h := it_t h c36
        refine lv_iconst (v := 0) hx hb dX5_isBarredClosing_94 (by decide) ?_
        exact hg95_12 0 h ls (lv_sub hl [0, 1, 2] rfl)
      · have h := it_f h c36
        refine lv_aload_n hx hb dX5_isBarredClosing_69 rfl (lv_at hl 1 rfl) ?_
        refine lv_aload_n hx hb dX5_isBarredClosing_70 rfl (lv_at hl 1 rfl) ?_
        refine va_get (D := D) (ci := 5) (v := .ref h_one) (C := RX5) (T := TX5) (N := 19) hx hb hts inX5_isBarredClosing_X5 hown hK hP 0 rfl rfl 5 (by decide) (hts _ lkX5_isBarredClosing_0) (fun _ h9 => h9) rfl dX5_isBarredClosing_71 ?_
        refine lv_iload_n hx hb dX5_isBarredClosing_74 rfl (lv_at hl 2 rfl) ?_
        obtain ⟨hi37, h⟩ := gin_e h
        refine va_iald hx hb hK hP 1 0 rfl rfl hi37 dX5_isBarredClosing_75 ?_
        refine lv_aload_n hx hb dX5_isBarredClosing_76 rfl (lv_at hl 1 rfl) ?_
        refine va_get (D := D) (ci := 5) (v := .int cl) (C := RX5) (T := TX5) (N := 19) hx hb hts inX5_isBarredClosing_X5 hown hK hP 0 rfl rfl 8 (by decide) (hts _ lkX5_isBarredClosing_1) (fun _ h9 => h9) rfl dX5_isBarredClosing_77 ?_
        refine lv_aload_n hx hb dX5_isBarredClosing_80 rfl (lv_at hl 1 rfl) ?_
        refine va_get (D := D) (ci := 5) (v := .int ea) (C := RX5) (T := TX5) (N := 19) hx hb hts inX5_isBarredClosing_X5 hown hK hP 0 rfl rfl 9 (by decide) (hts _ lkX5_isBarredClosing_5) (fun _ h9 => h9) rfl dX5_isBarredClosing_81 ?_
        obtain ⟨v38, hq39, h⟩ := bd1_e h
        refine zz_cV (As := [.int (one p0.toNatClampNeg), .int cl, .int ea]) ⟨hx, hb, hml, hown, hts⟩ (kX5_isEarthed l D cI cZ cL h_m h_isb a_log a_seq a_mho a_mih a_far h_one h_oth th nd sw so lo cl ea on lg wr pe one oth (one p0.toNatClampNeg) cl ea N hq39) (cwV 3 hts gX5_isBarredClosing_X5_isEarthed rfl rfl rfl (by decide +kernel) ⟨Nat.le_of_ble_eq_true rfl, Nat.le_of_ble_eq_true rfl⟩) (hP.sub (ws' := [(h_m, .inr (5, [.int th, .int nd, .int sw, .int so, .int lo, .ref h_one, .ref h_oth, .ref h_isb, .int cl, .int ea, .int on, .int lg, .ref a_log, .int wr, .ref a_seq, .int pe, .ref a_mho, .ref a_mih, .ref a_far])), (h_one, .inl (cI, 24, .inl one)), (h_oth, .inl (cI, 24, .inl oth))]) [0, 1, 2] rfl) hKK (va_recv hK hP (ci := 5) (q0 := 0) rfl rfl) rfl hl.1 rfl (Nat.le_of_ble_eq_true rfl) dX5_isBarredClosing_84 ⟨Nat.le_of_ble_eq_true rfl, Nat.le_of_ble_eq_true rfl⟩ ?_
        refine lv_if_eq (tgt := 94) hx hb dX5_isBarredClosing_87 (by decide) (fun c40 => ?_) (fun c40 => ?_)
        · have h := it_t h c40
          refine lv_iconst (v := 0) hx hb dX5_isBarredClosing_94 (by decide) ?_
          exact hg95_12 0 h ls (lv_sub hl [0, 1, 2] rfl)
        · have h := it_f h c40
          refine lv_iconst (v := 1) hx hb dX5_isBarredClosing_90 (by decide) ?_
          refine lv_goto (tgt := 95) hx hb dX5_isBarredClosing_91 (by decide) ?_
          exact hg95_12 1 h ls (lv_sub hl [0, 1, 2] rfl)
  · refine lv_if_eq (tgt := 46) hx hb dX5_isBarredClosing_18 (by decide) (fun c41 => ?_) (fun c41 => ?_)
    · have h := it_t h c41
      refine lv_iconst (v := 0) hx hb dX5_isBarredClosing_46 (by decide) ?_
      exact hg47_6 0 h ls (lv_sub hl [0, 1] rfl)
    · have h := it_f h c41
      refine lv_aload_n hx hb dX5_isBarredClosing_21 rfl (lv_at hl 0 rfl) ?_
      refine lv_aload_n hx hb dX5_isBarredClosing_22 rfl (lv_at hl 0 rfl) ?_
      refine va_get (D := D) (ci := 5) (v := .ref h_oth) (C := RX5) (T := TX5) (N := 19) hx hb hts inX5_isBarredClosing_X5 hown hK hP 0 rfl rfl 6 (by decide) (hts _ lkX5_isBarredClosing_3) (fun _ h9 => h9) rfl dX5_isBarredClosing_23 ?_
      refine lv_iload_n hx hb dX5_isBarredClosing_26 rfl (lv_at hl 1 rfl) ?_
      obtain ⟨hi42, h⟩ := gin_e h
      refine va_iald hx hb hK hP 2 0 rfl rfl hi42 dX5_isBarredClosing_27 ?_
      refine lv_aload_n hx hb dX5_isBarredClosing_28 rfl (lv_at hl 0 rfl) ?_
      refine va_get (D := D) (ci := 5) (v := .int cl) (C := RX5) (T := TX5) (N := 19) hx hb hts inX5_isBarredClosing_X5 hown hK hP 0 rfl rfl 8 (by decide) (hts _ lkX5_isBarredClosing_1) (fun _ h9 => h9) rfl dX5_isBarredClosing_29 ?_
      refine lv_aload_n hx hb dX5_isBarredClosing_32 rfl (lv_at hl 0 rfl) ?_
      refine va_get (D := D) (ci := 5) (v := .int ea) (C := RX5) (T := TX5) (N := 19) hx hb hts inX5_isBarredClosing_X5 hown hK hP 0 rfl rfl 9 (by decide) (hts _ lkX5_isBarredClosing_5) (fun _ h9 => h9) rfl dX5_isBarredClosing_33 ?_
      obtain ⟨v43, hq44, h⟩ := bd1_e h
      refine zz_cV (As := [.int (oth p0.toNatClampNeg), .int cl, .int ea]) ⟨hx, hb, hml, hown, hts⟩ (kX5_isEarthed l D cI cZ cL h_m h_isb a_log a_seq a_mho a_mih a_far h_one h_oth th nd sw so lo cl ea on lg wr pe one oth (oth p0.toNatClampNeg) cl ea N hq44) (cwV 3 hts gX5_isBarredClosing_X5_isEarthed rfl rfl rfl (by decide +kernel) ⟨Nat.le_of_ble_eq_true rfl, Nat.le_of_ble_eq_true rfl⟩) (hP.sub (ws' := [(h_m, .inr (5, [.int th, .int nd, .int sw, .int so, .int lo, .ref h_one, .ref h_oth, .ref h_isb, .int cl, .int ea, .int on, .int lg, .ref a_log, .int wr, .ref a_seq, .int pe, .ref a_mho, .ref a_mih, .ref a_far])), (h_one, .inl (cI, 24, .inl one)), (h_oth, .inl (cI, 24, .inl oth))]) [0, 1, 2] rfl) hKK (va_recv hK hP (ci := 5) (q0 := 0) rfl rfl) rfl hl.1 rfl (Nat.le_of_ble_eq_true rfl) dX5_isBarredClosing_36 ⟨Nat.le_of_ble_eq_true rfl, Nat.le_of_ble_eq_true rfl⟩ ?_
      refine lv_if_eq (tgt := 46) hx hb dX5_isBarredClosing_39 (by decide) (fun c45 => ?_) (fun c45 => ?_)
      · have h := it_t h c45
        refine lv_iconst (v := 0) hx hb dX5_isBarredClosing_46 (by decide) ?_
        exact hg47_6 0 h ls (lv_sub hl [0, 1] rfl)
      · have h := it_f h c45
        refine lv_iconst (v := 1) hx hb dX5_isBarredClosing_42 (by decide) ?_
        refine lv_goto (tgt := 47) hx hb dX5_isBarredClosing_43 (by decide) ?_
        exact hg47_6 1 h ls (lv_sub hl [0, 1] rfl)

def fX5_isBarred (N : Nat) (th : Int32) (nd : Int32) (sw : Int32) (so : Int32) (lo : Int32) (cl : Int32) (ea : Int32) (on : Int32) (lg : Int32) (wr : Int32) (pe : Int32) (one : Nat → Int32) (oth : Nat → Int32) (isb : Nat → Int32) (p0 : Int32) (p1 : Int32) : Option ((Int32)) :=
  (if p0 = 0 then bd1 (fX5_isBarredOpening N th nd sw so lo cl ea on lg wr pe one oth isb p1) (fun v17 => gd (bz v17) (some v17)) else (if p0 = 1 then bd1 (fX5_isBarredClosing N th nd sw so lo cl ea on lg wr pe one oth isb p1) (fun v15 => gd (bz v15) (some v15)) else (if p0 = 2 then bd1 (fX5_isLive N th nd sw so lo cl ea on lg wr pe one oth p1 cl on) (fun v8 => (if v8 = 0 then (if p0 = 4 then bd1 (fX5_isEarthed N th nd sw so lo cl ea on lg wr pe one oth p1 cl ea) (fun v12 => (if v12 = 0 then some 0 else some 1)) else some 0) else some 1)) else (if p0 = 4 then bd1 (fX5_isEarthed N th nd sw so lo cl ea on lg wr pe one oth p1 cl ea) (fun v5 => (if v5 = 0 then some 0 else some 1)) else some 0))))
set_option maxRecDepth 100000 in
theorem inX5_isBarred_X5 : ∀ w ∈ wsX50, w ∈ wsX5_isBarred := by decide +kernel
set_option maxRecDepth 100000 in
theorem lkX5_isBarred_0 : (.fieldLink RX5 76 "SwitchlogModel" "closed" "I" : Cond) ∈ wsX5_isBarred := by decide +kernel
set_option maxRecDepth 100000 in
theorem lkX5_isBarred_1 : (.fieldLink RX5 79 "SwitchlogModel" "earths" "I" : Cond) ∈ wsX5_isBarred := by decide +kernel
set_option maxRecDepth 100000 in
theorem lkX5_isBarred_2 : (.fieldLink RX5 67 "SwitchlogModel" "on" "I" : Cond) ∈ wsX5_isBarred := by decide +kernel
abbrev rmX5_isBarred : Room := { frames := 5, cells := 0, slots := 0, locals := 117 }
set_option maxHeartbeats 4000000 in
set_option maxRecDepth 100000 in
theorem kX5_isBarred (l : Launch) (D : va_G) (cI cZ cL : ClassId) (h_m a_log a_seq a_mho a_mih a_far h_one h_oth h_isb : Nat) (th : Int32) (nd : Int32) (sw : Int32) (so : Int32) (lo : Int32) (cl : Int32) (ea : Int32) (on : Int32) (lg : Int32) (wr : Int32) (pe : Int32) (one : Nat → Int32) (oth : Nat → Int32) (isb : Nat → Int32) (p0 : Int32) (p1 : Int32) (N : Nat) {r : Int32} (h : fX5_isBarred N th nd sw so lo cl ea on lg wr pe one oth isb p0 p1 = some r) : Met l yX5_isBarred wsX5_isBarred rmX5_isBarred (PR D cI cZ cL [.ref h_m, .int p0, .int p1] [(h_m, .inr (5, [.int th, .int nd, .int sw, .int so, .int lo, .ref h_one, .ref h_oth, .ref h_isb, .int cl, .int ea, .int on, .int lg, .ref a_log, .int wr, .ref a_seq, .int pe, .ref a_mho, .ref a_mih, .ref a_far])), (h_one, .inl (cI, 24, .inl one)), (h_oth, .inl (cI, 24, .inl oth)), (h_isb, .inl (cZ, 24, .inl isb))]) (vp_Si (fun z => z = r)) 0 0 (fun _ => False) := by
  refine Met.ofW (cc := cX5_isBarred) (maxL := 3) (ret := (some .boolean)) (by decide) rfl ?_
  intro p e s m args below meth c s₁ B hml hv
  obtain ⟨rfl, hP, hKK⟩ := hv
  have hK := hKK.1
  have hx := B.exec
  have hb := B.bytes
  have hr := B.returns
  have hts := atoms_spec (ws := wsX5_isBarred) B.pre
  have hown : s.vm.findClass RX5 = some m.cls := findClass_of_methodNamed B.named
  have hlocks := B.notSynchronized
  have hl := lv_entry ([.ref h_m, .int p0, .int p1]) (n := 3) (Nat.le_of_ble_eq_true rfl)
  rw [lg_entry_eq]
  generalize (lg_sl ([.ref h_m, .int p0, .int p1]) ++ List.replicate (3 - (lg_sl ([.ref h_m, .int p0, .int p1])).length) Slot.unset).toArray = ls at hl ⊢
  have hl : lv_has ls 3 [(0, .ref h_m), (1, .int p0), (2, .int p1)] := hl
  obtain ⟨QQ, hQQ⟩ : ∃ Z, Z = MQ below (vp_Si (fun z => z = r)) ([.ref h_m, .int p0, .int p1] : List Value).toArray s 0 0 (fun _ => False) := ⟨_, rfl⟩
  rw [← hQQ]
  unfold fX5_isBarred at h
  refine lv_iload_n hx hb dX5_isBarred_0 rfl (lv_at hl 1 rfl) ?_
  refine lv_if_ne (tgt := 10) hx hb dX5_isBarred_1 (by decide) (fun c1 => ?_) (fun c1 => ?_)
  · have h := it_f h c1
    refine lv_iload_n hx hb dX5_isBarred_10 rfl (lv_at hl 1 rfl) ?_
    refine lv_iconst (v := 1) hx hb dX5_isBarred_11 (by decide) ?_
    refine lv_icmp_ne (tgt := 21) hx hb dX5_isBarred_12 (by decide) (fun c2 => ?_) (fun c2 => ?_)
    · have h := it_f h c2
      refine lv_iload_n hx hb dX5_isBarred_21 rfl (lv_at hl 1 rfl) ?_
      refine lv_iconst (v := 2) hx hb dX5_isBarred_22 (by decide) ?_
      refine lv_icmp_ne (tgt := 42) hx hb dX5_isBarred_23 (by decide) (fun c3 => ?_) (fun c3 => ?_)
      · have h := it_f h c3
        refine lv_iload_n hx hb dX5_isBarred_42 rfl (lv_at hl 1 rfl) ?_
        refine lv_iconst (v := 4) hx hb dX5_isBarred_43 (by decide) ?_
        refine lv_icmp_ne (tgt := 67) hx hb dX5_isBarred_44 (by decide) (fun c4 => ?_) (fun c4 => ?_)
        · have h := it_f h c4
          refine lv_iconst (v := 0) hx hb dX5_isBarred_67 (by decide) ?_
          rw [hQQ]
          exact W.zret (v := 0) hx hb hr (by decide) (fun t ht hW => ⟨_, rfl, Option.some.inj h, ht⟩) (fun q hq => absurd hq List.not_mem_nil) dX5_isBarred_68
        · have h := it_t h c4
          refine lv_aload_n hx hb dX5_isBarred_47 rfl (lv_at hl 0 rfl) ?_
          refine lv_iload_n hx hb dX5_isBarred_48 rfl (lv_at hl 2 rfl) ?_
          refine lv_aload_n hx hb dX5_isBarred_49 rfl (lv_at hl 0 rfl) ?_
          refine va_get (D := D) (ci := 5) (v := .int cl) (C := RX5) (T := TX5) (N := 19) hx hb hts inX5_isBarred_X5 hown hK hP 0 rfl rfl 8 (by decide) (hts _ lkX5_isBarred_0) (fun _ h9 => h9) rfl dX5_isBarred_50 ?_
          refine lv_aload_n hx hb dX5_isBarred_53 rfl (lv_at hl 0 rfl) ?_
          refine va_get (D := D) (ci := 5) (v := .int ea) (C := RX5) (T := TX5) (N := 19) hx hb hts inX5_isBarred_X5 hown hK hP 0 rfl rfl 9 (by decide) (hts _ lkX5_isBarred_1) (fun _ h9 => h9) rfl dX5_isBarred_54 ?_
          obtain ⟨v5, hq6, h⟩ := bd1_e h
          refine zz_cV (As := [.int p1, .int cl, .int ea]) ⟨hx, hb, hml, hown, hts⟩ (kX5_isEarthed l D cI cZ cL h_m h_isb a_log a_seq a_mho a_mih a_far h_one h_oth th nd sw so lo cl ea on lg wr pe one oth p1 cl ea N hq6) (cwV 3 hts gX5_isBarred_X5_isEarthed rfl rfl rfl (by decide +kernel) ⟨Nat.le_of_ble_eq_true rfl, Nat.le_of_ble_eq_true rfl⟩) (hP.sub (ws' := [(h_m, .inr (5, [.int th, .int nd, .int sw, .int so, .int lo, .ref h_one, .ref h_oth, .ref h_isb, .int cl, .int ea, .int on, .int lg, .ref a_log, .int wr, .ref a_seq, .int pe, .ref a_mho, .ref a_mih, .ref a_far])), (h_one, .inl (cI, 24, .inl one)), (h_oth, .inl (cI, 24, .inl oth))]) [0, 1, 2] rfl) hKK (va_recv hK hP (ci := 5) (q0 := 0) rfl rfl) rfl hl.1 rfl (Nat.le_of_ble_eq_true rfl) dX5_isBarred_57 ⟨Nat.le_of_ble_eq_true rfl, Nat.le_of_ble_eq_true rfl⟩ ?_
          refine lv_if_eq (tgt := 67) hx hb dX5_isBarred_60 (by decide) (fun c7 => ?_) (fun c7 => ?_)
          · have h := it_t h c7
            refine lv_iconst (v := 0) hx hb dX5_isBarred_67 (by decide) ?_
            rw [hQQ]
            exact W.zret (v := 0) hx hb hr (by decide) (fun t ht hW => ⟨_, rfl, Option.some.inj h, ht⟩) (fun q hq => absurd hq List.not_mem_nil) dX5_isBarred_68
          · have h := it_f h c7
            refine lv_iconst (v := 1) hx hb dX5_isBarred_63 (by decide) ?_
            refine lv_goto (tgt := 68) hx hb dX5_isBarred_64 (by decide) ?_
            rw [hQQ]
            exact W.zret (v := 1) hx hb hr (by decide) (fun t ht hW => ⟨_, rfl, Option.some.inj h, ht⟩) (fun q hq => absurd hq List.not_mem_nil) dX5_isBarred_68
      · have h := it_t h c3
        refine lv_aload_n hx hb dX5_isBarred_26 rfl (lv_at hl 0 rfl) ?_
        refine lv_iload_n hx hb dX5_isBarred_27 rfl (lv_at hl 2 rfl) ?_
        refine lv_aload_n hx hb dX5_isBarred_28 rfl (lv_at hl 0 rfl) ?_
        refine va_get (D := D) (ci := 5) (v := .int cl) (C := RX5) (T := TX5) (N := 19) hx hb hts inX5_isBarred_X5 hown hK hP 0 rfl rfl 8 (by decide) (hts _ lkX5_isBarred_0) (fun _ h9 => h9) rfl dX5_isBarred_29 ?_
        refine lv_aload_n hx hb dX5_isBarred_32 rfl (lv_at hl 0 rfl) ?_
        refine va_get (D := D) (ci := 5) (v := .int on) (C := RX5) (T := TX5) (N := 19) hx hb hts inX5_isBarred_X5 hown hK hP 0 rfl rfl 10 (by decide) (hts _ lkX5_isBarred_2) (fun _ h9 => h9) rfl dX5_isBarred_33 ?_
        obtain ⟨v8, hq9, h⟩ := bd1_e h
        refine zz_cV (As := [.int p1, .int cl, .int on]) ⟨hx, hb, hml, hown, hts⟩ (kX5_isLive l D cI cZ cL h_m h_isb a_log a_seq a_mho a_mih a_far h_one h_oth th nd sw so lo cl ea on lg wr pe one oth p1 cl on N hq9) (cwV 3 hts gX5_isBarred_X5_isLive rfl rfl rfl (by decide +kernel) ⟨Nat.le_of_ble_eq_true rfl, Nat.le_of_ble_eq_true rfl⟩) (hP.sub (ws' := [(h_m, .inr (5, [.int th, .int nd, .int sw, .int so, .int lo, .ref h_one, .ref h_oth, .ref h_isb, .int cl, .int ea, .int on, .int lg, .ref a_log, .int wr, .ref a_seq, .int pe, .ref a_mho, .ref a_mih, .ref a_far])), (h_one, .inl (cI, 24, .inl one)), (h_oth, .inl (cI, 24, .inl oth))]) [0, 1, 2] rfl) hKK (va_recv hK hP (ci := 5) (q0 := 0) rfl rfl) rfl hl.1 rfl (Nat.le_of_ble_eq_true rfl) dX5_isBarred_36 ⟨Nat.le_of_ble_eq_true rfl, Nat.le_of_ble_eq_true rfl⟩ ?_
        refine lv_if_ne (tgt := 63) hx hb dX5_isBarred_39 (by decide) (fun c10 => ?_) (fun c10 => ?_)
        · have h := it_f h c10
          refine lv_iconst (v := 1) hx hb dX5_isBarred_63 (by decide) ?_
          refine lv_goto (tgt := 68) hx hb dX5_isBarred_64 (by decide) ?_
          rw [hQQ]
          exact W.zret (v := 1) hx hb hr (by decide) (fun t ht hW => ⟨_, rfl, Option.some.inj h, ht⟩) (fun q hq => absurd hq List.not_mem_nil) dX5_isBarred_68
        · have h := it_t h c10
          refine lv_iload_n hx hb dX5_isBarred_42 rfl (lv_at hl 1 rfl) ?_
          refine lv_iconst (v := 4) hx hb dX5_isBarred_43 (by decide) ?_
          refine lv_icmp_ne (tgt := 67) hx hb dX5_isBarred_44 (by decide) (fun c11 => ?_) (fun c11 => ?_)
          · have h := it_f h c11
            refine lv_iconst (v := 0) hx hb dX5_isBarred_67 (by decide) ?_
            rw [hQQ]
            exact W.zret (v := 0) hx hb hr (by decide) (fun t ht hW => ⟨_, rfl, Option.some.inj h, ht⟩) (fun q hq => absurd hq List.not_mem_nil) dX5_isBarred_68
          · have h := it_t h c11
            refine lv_aload_n hx hb dX5_isBarred_47 rfl (lv_at hl 0 rfl) ?_
            refine lv_iload_n hx hb dX5_isBarred_48 rfl (lv_at hl 2 rfl) ?_
            refine lv_aload_n hx hb dX5_isBarred_49 rfl (lv_at hl 0 rfl) ?_
            refine va_get (D := D) (ci := 5) (v := .int cl) (C := RX5) (T := TX5) (N := 19) hx hb hts inX5_isBarred_X5 hown hK hP 0 rfl rfl 8 (by decide) (hts _ lkX5_isBarred_0) (fun _ h9 => h9) rfl dX5_isBarred_50 ?_
            refine lv_aload_n hx hb dX5_isBarred_53 rfl (lv_at hl 0 rfl) ?_
            refine va_get (D := D) (ci := 5) (v := .int ea) (C := RX5) (T := TX5) (N := 19) hx hb hts inX5_isBarred_X5 hown hK hP 0 rfl rfl 9 (by decide) (hts _ lkX5_isBarred_1) (fun _ h9 => h9) rfl dX5_isBarred_54 ?_
            obtain ⟨v12, hq13, h⟩ := bd1_e h
            refine zz_cV (As := [.int p1, .int cl, .int ea]) ⟨hx, hb, hml, hown, hts⟩ (kX5_isEarthed l D cI cZ cL h_m h_isb a_log a_seq a_mho a_mih a_far h_one h_oth th nd sw so lo cl ea on lg wr pe one oth p1 cl ea N hq13) (cwV 3 hts gX5_isBarred_X5_isEarthed rfl rfl rfl (by decide +kernel) ⟨Nat.le_of_ble_eq_true rfl, Nat.le_of_ble_eq_true rfl⟩) (hP.sub (ws' := [(h_m, .inr (5, [.int th, .int nd, .int sw, .int so, .int lo, .ref h_one, .ref h_oth, .ref h_isb, .int cl, .int ea, .int on, .int lg, .ref a_log, .int wr, .ref a_seq, .int pe, .ref a_mho, .ref a_mih, .ref a_far])), (h_one, .inl (cI, 24, .inl one)), (h_oth, .inl (cI, 24, .inl oth))]) [0, 1, 2] rfl) hKK (va_recv hK hP (ci := 5) (q0 := 0) rfl rfl) rfl hl.1 rfl (Nat.le_of_ble_eq_true rfl) dX5_isBarred_57 ⟨Nat.le_of_ble_eq_true rfl, Nat.le_of_ble_eq_true rfl⟩ ?_
            refine lv_if_eq (tgt := 67) hx hb dX5_isBarred_60 (by decide) (fun c14 => ?_) (fun c14 => ?_)
            · have h := it_t h c14
              refine lv_iconst (v := 0) hx hb dX5_isBarred_67 (by decide) ?_
              rw [hQQ]
              exact W.zret (v := 0) hx hb hr (by decide) (fun t ht hW => ⟨_, rfl, Option.some.inj h, ht⟩) (fun q hq => absurd hq List.not_mem_nil) dX5_isBarred_68
            · have h := it_f h c14
              refine lv_iconst (v := 1) hx hb dX5_isBarred_63 (by decide) ?_
              refine lv_goto (tgt := 68) hx hb dX5_isBarred_64 (by decide) ?_
              rw [hQQ]
              exact W.zret (v := 1) hx hb hr (by decide) (fun t ht hW => ⟨_, rfl, Option.some.inj h, ht⟩) (fun q hq => absurd hq List.not_mem_nil) dX5_isBarred_68
    · have h := it_t h c2
      refine lv_aload_n hx hb dX5_isBarred_15 rfl (lv_at hl 0 rfl) ?_
      refine lv_iload_n hx hb dX5_isBarred_16 rfl (lv_at hl 2 rfl) ?_
      obtain ⟨v15, hq16, h⟩ := bd1_e h
      refine zz_cV (As := [.int p1]) ⟨hx, hb, hml, hown, hts⟩ (kX5_isBarredClosing l D cI cZ cL h_m a_log a_seq a_mho a_mih a_far h_one h_oth h_isb th nd sw so lo cl ea on lg wr pe one oth isb p1 N hq16) (cwV 1 hts gX5_isBarred_X5_isBarredClosing rfl rfl rfl (by decide +kernel) ⟨Nat.le_of_ble_eq_true rfl, Nat.le_of_ble_eq_true rfl⟩) (hP.sub (ws' := [(h_m, .inr (5, [.int th, .int nd, .int sw, .int so, .int lo, .ref h_one, .ref h_oth, .ref h_isb, .int cl, .int ea, .int on, .int lg, .ref a_log, .int wr, .ref a_seq, .int pe, .ref a_mho, .ref a_mih, .ref a_far])), (h_one, .inl (cI, 24, .inl one)), (h_oth, .inl (cI, 24, .inl oth)), (h_isb, .inl (cZ, 24, .inl isb))]) [0, 1, 2, 3] rfl) hKK (va_recv hK hP (ci := 5) (q0 := 0) rfl rfl) rfl hl.1 rfl (Nat.le_of_ble_eq_true rfl) dX5_isBarred_17 ⟨Nat.le_of_ble_eq_true rfl, Nat.le_of_ble_eq_true rfl⟩ ?_
      obtain ⟨hz, h⟩ := gd_e h
      rw [hQQ]
      exact W.zret (v := v15) hx hb hr (bz_e hz) (fun t ht hW => ⟨_, rfl, Option.some.inj h, ht⟩) (fun q hq => absurd hq List.not_mem_nil) dX5_isBarred_20
  · have h := it_t h c1
    refine lv_aload_n hx hb dX5_isBarred_4 rfl (lv_at hl 0 rfl) ?_
    refine lv_iload_n hx hb dX5_isBarred_5 rfl (lv_at hl 2 rfl) ?_
    obtain ⟨v17, hq18, h⟩ := bd1_e h
    refine zz_cV (As := [.int p1]) ⟨hx, hb, hml, hown, hts⟩ (kX5_isBarredOpening l D cI cZ cL h_m a_log a_seq a_mho a_mih a_far h_one h_oth h_isb th nd sw so lo cl ea on lg wr pe one oth isb p1 N hq18) (cwV 1 hts gX5_isBarred_X5_isBarredOpening rfl rfl rfl (by decide +kernel) ⟨Nat.le_of_ble_eq_true rfl, Nat.le_of_ble_eq_true rfl⟩) (hP.sub (ws' := [(h_m, .inr (5, [.int th, .int nd, .int sw, .int so, .int lo, .ref h_one, .ref h_oth, .ref h_isb, .int cl, .int ea, .int on, .int lg, .ref a_log, .int wr, .ref a_seq, .int pe, .ref a_mho, .ref a_mih, .ref a_far])), (h_one, .inl (cI, 24, .inl one)), (h_oth, .inl (cI, 24, .inl oth)), (h_isb, .inl (cZ, 24, .inl isb))]) [0, 1, 2, 3] rfl) hKK (va_recv hK hP (ci := 5) (q0 := 0) rfl rfl) rfl hl.1 rfl (Nat.le_of_ble_eq_true rfl) dX5_isBarred_6 ⟨Nat.le_of_ble_eq_true rfl, Nat.le_of_ble_eq_true rfl⟩ ?_
    obtain ⟨hz, h⟩ := gd_e h
    rw [hQQ]
    exact W.zret (v := v17) hx hb hr (bz_e hz) (fun t ht hW => ⟨_, rfl, Option.some.inj h, ht⟩) (fun q hq => absurd hq List.not_mem_nil) dX5_isBarred_9

def fX5_areHeldSafe (N : Nat) (th : Int32) (nd : Int32) (sw : Int32) (so : Int32) (lo : Int32) (cl : Int32) (ea : Int32) (on : Int32) (lg : Int32) (wr : Int32) (pe : Int32) (one : Nat → Int32) (oth : Nat → Int32) (mho : Nat → Int32) (mih : Nat → Int32) : Option ((Int32)) :=
  it2 (fun g4_3 (x1 : Int32) (x2 : Int32) => (if nd ≤ x1 then gd (bz x2) (some x2) else (if x2 = 0 then g4_3 (x1 + 1) 0 else bd1 (fX5_heldNow N th nd sw so lo cl ea on lg wr pe mho mih) (fun v7 => bd1 (fX5_has N  v7 x1) (fun v9 => (if v9 = 0 then g4_3 (x1 + 1) 1 else bd1 (fX5_isEarthed N th nd sw so lo cl ea on lg wr pe one oth x1 cl ea) (fun v12 => (if v12 = 0 then g4_3 (x1 + 1) 0 else bd1 (fX5_isLive N th nd sw so lo cl ea on lg wr pe one oth x1 cl on) (fun v15 => (if v15 = 0 then g4_3 (x1 + 1) 1 else g4_3 (x1 + 1) 0)))))))))) N 0 1
set_option maxRecDepth 100000 in
theorem inX5_areHeldSafe_X5 : ∀ w ∈ wsX50, w ∈ wsX5_areHeldSafe := by decide +kernel
set_option maxRecDepth 100000 in
theorem lkX5_areHeldSafe_0 : (.fieldLink RX5 39 "SwitchlogModel" "nodes" "I" : Cond) ∈ wsX5_areHeldSafe := by decide +kernel
set_option maxRecDepth 100000 in
theorem lkX5_areHeldSafe_1 : (.fieldLink RX5 76 "SwitchlogModel" "closed" "I" : Cond) ∈ wsX5_areHeldSafe := by decide +kernel
set_option maxRecDepth 100000 in
theorem lkX5_areHeldSafe_2 : (.fieldLink RX5 79 "SwitchlogModel" "earths" "I" : Cond) ∈ wsX5_areHeldSafe := by decide +kernel
set_option maxRecDepth 100000 in
theorem lkX5_areHeldSafe_3 : (.fieldLink RX5 67 "SwitchlogModel" "on" "I" : Cond) ∈ wsX5_areHeldSafe := by decide +kernel
abbrev rmX5_areHeldSafe : Room := { frames := 3, cells := 0, slots := 0, locals := 70 }
set_option maxHeartbeats 4000000 in
set_option maxRecDepth 100000 in
theorem kX5_areHeldSafe (l : Launch) (D : va_G) (cI cZ cL : ClassId) (h_m a_isb a_log a_seq a_far h_one h_oth h_mho h_mih : Nat) (th : Int32) (nd : Int32) (sw : Int32) (so : Int32) (lo : Int32) (cl : Int32) (ea : Int32) (on : Int32) (lg : Int32) (wr : Int32) (pe : Int32) (one : Nat → Int32) (oth : Nat → Int32) (mho : Nat → Int32) (mih : Nat → Int32)  (N : Nat) {r : Int32} (h : fX5_areHeldSafe N th nd sw so lo cl ea on lg wr pe one oth mho mih  = some r) : Met l yX5_areHeldSafe wsX5_areHeldSafe rmX5_areHeldSafe (PR D cI cZ cL [.ref h_m] [(h_m, .inr (5, [.int th, .int nd, .int sw, .int so, .int lo, .ref h_one, .ref h_oth, .ref a_isb, .int cl, .int ea, .int on, .int lg, .ref a_log, .int wr, .ref a_seq, .int pe, .ref h_mho, .ref h_mih, .ref a_far])), (h_one, .inl (cI, 24, .inl one)), (h_oth, .inl (cI, 24, .inl oth)), (h_mho, .inl (cI, 10, .inl mho)), (h_mih, .inl (cZ, 10, .inl mih))]) (vp_Si (fun z => z = r)) 0 0 (fun _ => False) := by
  refine Met.ofW (cc := cX5_areHeldSafe) (maxL := 3) (ret := (some .boolean)) (by decide) rfl ?_
  intro p e s m args below meth c s₁ B hml hv
  obtain ⟨rfl, hP, hKK⟩ := hv
  have hK := hKK.1
  have hx := B.exec
  have hb := B.bytes
  have hr := B.returns
  have hts := atoms_spec (ws := wsX5_areHeldSafe) B.pre
  have hown : s.vm.findClass RX5 = some m.cls := findClass_of_methodNamed B.named
  have hlocks := B.notSynchronized
  have hl := lv_entry ([.ref h_m]) (n := 3) (Nat.le_of_ble_eq_true rfl)
  rw [lg_entry_eq]
  generalize (lg_sl ([.ref h_m]) ++ List.replicate (3 - (lg_sl ([.ref h_m])).length) Slot.unset).toArray = ls at hl ⊢
  have hl : lv_has ls 3 [(0, .ref h_m)] := hl
  obtain ⟨QQ, hQQ⟩ : ∃ Z, Z = MQ below (vp_Si (fun z => z = r)) ([.ref h_m] : List Value).toArray s 0 0 (fun _ => False) := ⟨_, rfl⟩
  rw [← hQQ]
  unfold fX5_areHeldSafe at h
  refine lv_iconst (v := 1) hx hb dX5_areHeldSafe_0 (by decide) ?_
  refine lv_istore_n (lv' := [(1, .int 1), (0, .ref h_m)]) hx hb dX5_areHeldSafe_1 rfl hl (by decide) rfl (fun ls hl => ?_)
  refine lv_iconst (v := 0) hx hb dX5_areHeldSafe_2 (by decide) ?_
  refine lv_istore_n (lv' := [(2, .int 0), (1, .int 1), (0, .ref h_m)]) hx hb dX5_areHeldSafe_3 rfl hl (by decide) rfl (fun ls hl => ?_)
  refine it2_e (fun (x1 : Int32) (x2 : Int32) => ∀ ls : Array Slot, lv_has ls 3 [(2, .int x1), (1, .int x2), (0, .ref h_m)] → W p l e (headSpec wsX5_areHeldSafe rmX5_areHeldSafe).room s m (([.ref h_m] : List Value).toArray) below meth c s.heap [] 0 0 QQ (F0 m 4 ls [])) (fun g4_3 hg4_4 x1 x2 h ls hl => ?_) N 0 1 h ls (lv_sub hl [0, 1, 2] rfl)
  refine lv_iload_n hx hb dX5_areHeldSafe_4 rfl (lv_at hl 0 rfl) ?_
  refine lv_aload_n hx hb dX5_areHeldSafe_5 rfl (lv_at hl 2 rfl) ?_
  refine va_get (D := D) (ci := 5) (v := .int nd) (C := RX5) (T := TX5) (N := 19) hx hb hts inX5_areHeldSafe_X5 hown hK hP 0 rfl rfl 1 (by decide) (hts _ lkX5_areHeldSafe_0) (fun _ h9 => h9) rfl dX5_areHeldSafe_6 ?_
  refine lv_icmp_ge (tgt := 71) hx hb dX5_areHeldSafe_9 (by decide) (fun c5 => ?_) (fun c5 => ?_)
  · have h := it_t h c5
    refine lv_iload_n hx hb dX5_areHeldSafe_71 rfl (lv_at hl 1 rfl) ?_
    obtain ⟨hz, h⟩ := gd_e h
    rw [hQQ]
    exact W.zret (v := x2) hx hb hr (bz_e hz) (fun t ht hW => ⟨_, rfl, Option.some.inj h, ht⟩) (fun q hq => absurd hq List.not_mem_nil) dX5_areHeldSafe_72
  · have h := it_f h c5
    refine lv_iload_n hx hb dX5_areHeldSafe_12 rfl (lv_at hl 1 rfl) ?_
    refine lv_if_eq (tgt := 63) hx hb dX5_areHeldSafe_13 (by decide) (fun c6 => ?_) (fun c6 => ?_)
    · have h := it_t h c6
      refine lv_iconst (v := 0) hx hb dX5_areHeldSafe_63 (by decide) ?_
      refine lv_istore_n (lv' := [(1, .int 0), (2, .int x1), (0, .ref h_m)]) hx hb dX5_areHeldSafe_64 rfl hl (by decide) rfl (fun ls hl => ?_)
      refine lv_iinc (v := x1 + 1) (lv' := [(2, .int (x1 + 1)), (1, .int 0), (0, .ref h_m)]) hx hb dX5_areHeldSafe_65 hl (k := 1) rfl rfl (by decide) rfl (fun ls hl => ?_)
      refine lv_goto (tgt := 4) hx hb dX5_areHeldSafe_68 (by decide) ?_
      exact hg4_4 (x1 + 1) 0 h ls (lv_sub hl [0, 1, 2] rfl)
    · have h := it_f h c6
      refine lv_aload_n hx hb dX5_areHeldSafe_16 rfl (lv_at hl 2 rfl) ?_
      obtain ⟨v7, hq8, h⟩ := bd1_e h
      refine zz_cV (As := []) ⟨hx, hb, hml, hown, hts⟩ (kX5_heldNow l D cI cZ cL h_m h_one h_oth a_isb a_log a_seq a_far h_mho h_mih th nd sw so lo cl ea on lg wr pe mho mih N hq8) (cwV 0 hts gX5_areHeldSafe_X5_heldNow rfl rfl rfl (by decide +kernel) ⟨Nat.le_of_ble_eq_true rfl, Nat.le_of_ble_eq_true rfl⟩) (hP.sub (ws' := [(h_m, .inr (5, [.int th, .int nd, .int sw, .int so, .int lo, .ref h_one, .ref h_oth, .ref a_isb, .int cl, .int ea, .int on, .int lg, .ref a_log, .int wr, .ref a_seq, .int pe, .ref h_mho, .ref h_mih, .ref a_far])), (h_mho, .inl (cI, 10, .inl mho)), (h_mih, .inl (cZ, 10, .inl mih))]) [0, 3, 4] rfl) hKK (va_recv hK hP (ci := 5) (q0 := 0) rfl rfl) rfl hl.1 rfl (Nat.le_of_ble_eq_true rfl) dX5_areHeldSafe_17 ⟨Nat.le_of_ble_eq_true rfl, Nat.le_of_ble_eq_true rfl⟩ ?_
      refine lv_iload_n hx hb dX5_areHeldSafe_20 rfl (lv_at hl 0 rfl) ?_
      obtain ⟨v9, hq10, h⟩ := bd1_e h
      refine zz_cS (As := [.int v7, .int x1]) ⟨hx, hb, hml, hown, hts⟩ (kX5_has l D cI cZ cL v7 x1 N hq10) (va_cwS 2 hts gX5_areHeldSafe_X5_has rfl rfl rfl (by decide +kernel) ⟨Nat.le_of_ble_eq_true rfl, Nat.le_of_ble_eq_true rfl⟩) (hP.sub (ws' := []) [] rfl) hKK rfl hl.1 rfl (Nat.le_of_ble_eq_true rfl) dX5_areHeldSafe_21 ⟨Nat.le_of_ble_eq_true rfl, Nat.le_of_ble_eq_true rfl⟩ ?_
      refine lv_if_eq (tgt := 59) hx hb dX5_areHeldSafe_24 (by decide) (fun c11 => ?_) (fun c11 => ?_)
      · have h := it_t h c11
        refine lv_iconst (v := 1) hx hb dX5_areHeldSafe_59 (by decide) ?_
        refine lv_goto (tgt := 64) hx hb dX5_areHeldSafe_60 (by decide) ?_
        refine lv_istore_n (lv' := [(1, .int 1), (2, .int x1), (0, .ref h_m)]) hx hb dX5_areHeldSafe_64 rfl hl (by decide) rfl (fun ls hl => ?_)
        refine lv_iinc (v := x1 + 1) (lv' := [(2, .int (x1 + 1)), (1, .int 1), (0, .ref h_m)]) hx hb dX5_areHeldSafe_65 hl (k := 1) rfl rfl (by decide) rfl (fun ls hl => ?_)
        refine lv_goto (tgt := 4) hx hb dX5_areHeldSafe_68 (by decide) ?_
        exact hg4_4 (x1 + 1) 1 h ls (lv_sub hl [0, 1, 2] rfl)
      · have h := it_f h c11
        refine lv_aload_n hx hb dX5_areHeldSafe_27 rfl (lv_at hl 2 rfl) ?_
        refine lv_iload_n hx hb dX5_areHeldSafe_28 rfl (lv_at hl 0 rfl) ?_
        refine lv_aload_n hx hb dX5_areHeldSafe_29 rfl (lv_at hl 2 rfl) ?_
        refine va_get (D := D) (ci := 5) (v := .int cl) (C := RX5) (T := TX5) (N := 19) hx hb hts inX5_areHeldSafe_X5 hown hK hP 0 rfl rfl 8 (by decide) (hts _ lkX5_areHeldSafe_1) (fun _ h9 => h9) rfl dX5_areHeldSafe_30 ?_
        refine lv_aload_n hx hb dX5_areHeldSafe_33 rfl (lv_at hl 2 rfl) ?_
        refine va_get (D := D) (ci := 5) (v := .int ea) (C := RX5) (T := TX5) (N := 19) hx hb hts inX5_areHeldSafe_X5 hown hK hP 0 rfl rfl 9 (by decide) (hts _ lkX5_areHeldSafe_2) (fun _ h9 => h9) rfl dX5_areHeldSafe_34 ?_
        obtain ⟨v12, hq13, h⟩ := bd1_e h
        refine zz_cV (As := [.int x1, .int cl, .int ea]) ⟨hx, hb, hml, hown, hts⟩ (kX5_isEarthed l D cI cZ cL h_m a_isb a_log a_seq h_mho h_mih a_far h_one h_oth th nd sw so lo cl ea on lg wr pe one oth x1 cl ea N hq13) (cwV 3 hts gX5_areHeldSafe_X5_isEarthed rfl rfl rfl (by decide +kernel) ⟨Nat.le_of_ble_eq_true rfl, Nat.le_of_ble_eq_true rfl⟩) (hP.sub (ws' := [(h_m, .inr (5, [.int th, .int nd, .int sw, .int so, .int lo, .ref h_one, .ref h_oth, .ref a_isb, .int cl, .int ea, .int on, .int lg, .ref a_log, .int wr, .ref a_seq, .int pe, .ref h_mho, .ref h_mih, .ref a_far])), (h_one, .inl (cI, 24, .inl one)), (h_oth, .inl (cI, 24, .inl oth))]) [0, 1, 2] rfl) hKK (va_recv hK hP (ci := 5) (q0 := 0) rfl rfl) rfl hl.1 rfl (Nat.le_of_ble_eq_true rfl) dX5_areHeldSafe_37 ⟨Nat.le_of_ble_eq_true rfl, Nat.le_of_ble_eq_true rfl⟩ ?_
        refine lv_if_eq (tgt := 63) hx hb dX5_areHeldSafe_40 (by decide) (fun c14 => ?_) (fun c14 => ?_)
        · have h := it_t h c14
          refine lv_iconst (v := 0) hx hb dX5_areHeldSafe_63 (by decide) ?_
          refine lv_istore_n (lv' := [(1, .int 0), (2, .int x1), (0, .ref h_m)]) hx hb dX5_areHeldSafe_64 rfl hl (by decide) rfl (fun ls hl => ?_)
          refine lv_iinc (v := x1 + 1) (lv' := [(2, .int (x1 + 1)), (1, .int 0), (0, .ref h_m)]) hx hb dX5_areHeldSafe_65 hl (k := 1) rfl rfl (by decide) rfl (fun ls hl => ?_)
          refine lv_goto (tgt := 4) hx hb dX5_areHeldSafe_68 (by decide) ?_
          exact hg4_4 (x1 + 1) 0 h ls (lv_sub hl [0, 1, 2] rfl)
        · have h := it_f h c14
          refine lv_aload_n hx hb dX5_areHeldSafe_43 rfl (lv_at hl 2 rfl) ?_
          refine lv_iload_n hx hb dX5_areHeldSafe_44 rfl (lv_at hl 0 rfl) ?_
          refine lv_aload_n hx hb dX5_areHeldSafe_45 rfl (lv_at hl 2 rfl) ?_
          refine va_get (D := D) (ci := 5) (v := .int cl) (C := RX5) (T := TX5) (N := 19) hx hb hts inX5_areHeldSafe_X5 hown hK hP 0 rfl rfl 8 (by decide) (hts _ lkX5_areHeldSafe_1) (fun _ h9 => h9) rfl dX5_areHeldSafe_46 ?_
          refine lv_aload_n hx hb dX5_areHeldSafe_49 rfl (lv_at hl 2 rfl) ?_
          refine va_get (D := D) (ci := 5) (v := .int on) (C := RX5) (T := TX5) (N := 19) hx hb hts inX5_areHeldSafe_X5 hown hK hP 0 rfl rfl 10 (by decide) (hts _ lkX5_areHeldSafe_3) (fun _ h9 => h9) rfl dX5_areHeldSafe_50 ?_
          obtain ⟨v15, hq16, h⟩ := bd1_e h
          refine zz_cV (As := [.int x1, .int cl, .int on]) ⟨hx, hb, hml, hown, hts⟩ (kX5_isLive l D cI cZ cL h_m a_isb a_log a_seq h_mho h_mih a_far h_one h_oth th nd sw so lo cl ea on lg wr pe one oth x1 cl on N hq16) (cwV 3 hts gX5_areHeldSafe_X5_isLive rfl rfl rfl (by decide +kernel) ⟨Nat.le_of_ble_eq_true rfl, Nat.le_of_ble_eq_true rfl⟩) (hP.sub (ws' := [(h_m, .inr (5, [.int th, .int nd, .int sw, .int so, .int lo, .ref h_one, .ref h_oth, .ref a_isb, .int cl, .int ea, .int on, .int lg, .ref a_log, .int wr, .ref a_seq, .int pe, .ref h_mho, .ref h_mih, .ref a_far])), (h_one, .inl (cI, 24, .inl one)), (h_oth, .inl (cI, 24, .inl oth))]) [0, 1, 2] rfl) hKK (va_recv hK hP (ci := 5) (q0 := 0) rfl rfl) rfl hl.1 rfl (Nat.le_of_ble_eq_true rfl) dX5_areHeldSafe_53 ⟨Nat.le_of_ble_eq_true rfl, Nat.le_of_ble_eq_true rfl⟩ ?_
          refine lv_if_ne (tgt := 63) hx hb dX5_areHeldSafe_56 (by decide) (fun c17 => ?_) (fun c17 => ?_)
          · have h := it_f h c17
            refine lv_iconst (v := 0) hx hb dX5_areHeldSafe_63 (by decide) ?_
            refine lv_istore_n (lv' := [(1, .int 0), (2, .int x1), (0, .ref h_m)]) hx hb dX5_areHeldSafe_64 rfl hl (by decide) rfl (fun ls hl => ?_)
            refine lv_iinc (v := x1 + 1) (lv' := [(2, .int (x1 + 1)), (1, .int 0), (0, .ref h_m)]) hx hb dX5_areHeldSafe_65 hl (k := 1) rfl rfl (by decide) rfl (fun ls hl => ?_)
            refine lv_goto (tgt := 4) hx hb dX5_areHeldSafe_68 (by decide) ?_
            exact hg4_4 (x1 + 1) 0 h ls (lv_sub hl [0, 1, 2] rfl)
          · have h := it_t h c17
            refine lv_iconst (v := 1) hx hb dX5_areHeldSafe_59 (by decide) ?_
            refine lv_goto (tgt := 64) hx hb dX5_areHeldSafe_60 (by decide) ?_
            refine lv_istore_n (lv' := [(1, .int 1), (2, .int x1), (0, .ref h_m)]) hx hb dX5_areHeldSafe_64 rfl hl (by decide) rfl (fun ls hl => ?_)
            refine lv_iinc (v := x1 + 1) (lv' := [(2, .int (x1 + 1)), (1, .int 1), (0, .ref h_m)]) hx hb dX5_areHeldSafe_65 hl (k := 1) rfl rfl (by decide) rfl (fun ls hl => ?_)
            refine lv_goto (tgt := 4) hx hb dX5_areHeldSafe_68 (by decide) ?_
            exact hg4_4 (x1 + 1) 1 h ls (lv_sub hl [0, 1, 2] rfl)

def fX5_does (N : Nat) (th : Int32) (nd : Int32) (sw : Int32) (so : Int32) (lo : Int32) (cl : Int32) (ea : Int32) (on : Int32) (lg : Int32) (wr : Int32) (pe : Int32) (p0 : Int32) (p1 : Int32) : Option ((Int32) × (Int32) × (Int32)) :=
  jn1 (fun (y1 : Int32) => jn1 (fun (y4 : Int32) => (if p0 = 4 then some (y1, y4, on ||| ((1 : Int32) <<< (p1 &&& 31))) else (if p0 = 5 then some (y1, y4, on &&& (((1 : Int32) <<< (p1 &&& 31)) ^^^ (-1))) else some (y1, y4, on)))) (fun g76_5 => (if p0 = 2 then g76_5 (ea ||| ((1 : Int32) <<< (p1 &&& 31))) else (if p0 = 3 then g76_5 (ea &&& (((1 : Int32) <<< (p1 &&& 31)) ^^^ (-1))) else g76_5 ea)))) (fun g38_2 => (if p0 = 0 then g38_2 (cl &&& (((1 : Int32) <<< (p1 &&& 31)) ^^^ (-1))) else (if p0 = 1 then g38_2 (cl ||| ((1 : Int32) <<< (p1 &&& 31))) else g38_2 cl)))
set_option maxRecDepth 100000 in
theorem inX5_does_X5 : ∀ w ∈ wsX50, w ∈ wsX5_does := by decide +kernel
set_option maxRecDepth 100000 in
theorem lkX5_does_0 : (.fieldLink RX5 76 "SwitchlogModel" "closed" "I" : Cond) ∈ wsX5_does := by decide +kernel
set_option maxRecDepth 100000 in
theorem lkX5_does_1 : (.fieldLink RX5 79 "SwitchlogModel" "earths" "I" : Cond) ∈ wsX5_does := by decide +kernel
set_option maxRecDepth 100000 in
theorem lkX5_does_2 : (.fieldLink RX5 67 "SwitchlogModel" "on" "I" : Cond) ∈ wsX5_does := by decide +kernel
abbrev rmX5_does : Room := { frames := 0, cells := 0, slots := 0, locals := 0 }
set_option maxHeartbeats 4000000 in
set_option maxRecDepth 100000 in
theorem kX5_does (l : Launch) (D : va_G) (cI cZ cL : ClassId) (sz0 : Nat) (h_m a_one a_oth a_isb a_log a_seq a_mho a_mih a_far : Nat) (th : Int32) (nd : Int32) (sw : Int32) (so : Int32) (lo : Int32) (cl : Int32) (ea : Int32) (on : Int32) (lg : Int32) (wr : Int32) (pe : Int32) (p0 : Int32) (p1 : Int32) (N : Nat) {r_0 : Int32} {r_1 : Int32} {r_2 : Int32} (h : fX5_does N th nd sw so lo cl ea on lg wr pe p0 p1 = some (r_0, r_1, r_2)) : Met l yX5_does wsX5_does rmX5_does (PM D cI cZ cL [.ref h_m, .int p0, .int p1] [(h_m, .inr (5, [.int th, .int nd, .int sw, .int so, .int lo, .ref a_one, .ref a_oth, .ref a_isb, .int cl, .int ea, .int on, .int lg, .ref a_log, .int wr, .ref a_seq, .int pe, .ref a_mho, .ref a_mih, .ref a_far]))] sz0) (QM D none (va_A [(h_m, .inr (5, [.int th, .int nd, .int sw, .int so, .int lo, .ref a_one, .ref a_oth, .ref a_isb, .int cl, .int ea, .int on, .int lg, .ref a_log, .int wr, .ref a_seq, .int pe, .ref a_mho, .ref a_mih, .ref a_far]))] sz0) [(h_m, .inr (5, [.int th, .int nd, .int sw, .int so, .int lo, .ref a_one, .ref a_oth, .ref a_isb, .int r_0, .int r_1, .int r_2, .int lg, .ref a_log, .int wr, .ref a_seq, .int pe, .ref a_mho, .ref a_mih, .ref a_far]))]) 0 0 (va_A [(h_m, .inr (5, [.int th, .int nd, .int sw, .int so, .int lo, .ref a_one, .ref a_oth, .ref a_isb, .int cl, .int ea, .int on, .int lg, .ref a_log, .int wr, .ref a_seq, .int pe, .ref a_mho, .ref a_mih, .ref a_far]))] sz0) := by
  refine Met.ofW (cc := cX5_does) (maxL := 4) (ret := none) (by decide) rfl ?_
  intro p e s m args below meth c s₁ B hml hv
  obtain ⟨rfl, hsz, hP, hKK, hD0⟩ := hv
  have hK := hKK.1
  have hx := B.exec
  have hb := B.bytes
  have hr := B.returns
  have hts := atoms_spec (ws := wsX5_does) B.pre
  have hown : s.vm.findClass RX5 = some m.cls := findClass_of_methodNamed B.named
  have hlocks := B.notSynchronized
  subst hsz
  have hD := hD0.self (sz := s.heap.size)
  generalize hAe : va_A [(h_m, .inr (5, [.int th, .int nd, .int sw, .int so, .int lo, .ref a_one, .ref a_oth, .ref a_isb, .int cl, .int ea, .int on, .int lg, .ref a_log, .int wr, .ref a_seq, .int pe, .ref a_mho, .ref a_mih, .ref a_far]))] s.heap.size = A at hD ⊢
  have hA : ∀ q : Nat, s.heap.size ≤ q → A q := fun q h => by rw [← hAe]; exact Or.inr h
  have hS : va_S A s.heap s.heap [] := va_S.rf
  have hl := lv_entry ([.ref h_m, .int p0, .int p1]) (n := 4) (Nat.le_of_ble_eq_true rfl)
  rw [lg_entry_eq]
  generalize (lg_sl ([.ref h_m, .int p0, .int p1]) ++ List.replicate (4 - (lg_sl ([.ref h_m, .int p0, .int p1])).length) Slot.unset).toArray = ls at hl ⊢
  have hl : lv_has ls 4 [(0, .ref h_m), (1, .int p0), (2, .int p1)] := hl
  obtain ⟨QQ, hQQ⟩ : ∃ Z, Z = MQ below (QM D none A [(h_m, .inr (5, [.int th, .int nd, .int sw, .int so, .int lo, .ref a_one, .ref a_oth, .ref a_isb, .int r_0, .int r_1, .int r_2, .int lg, .ref a_log, .int wr, .ref a_seq, .int pe, .ref a_mho, .ref a_mih, .ref a_far]))]) ([.ref h_m, .int p0, .int p1] : List Value).toArray s 0 0 A := ⟨_, rfl⟩
  rw [← hQQ]
  obtain ⟨H, locs, hHe, hLe⟩ : ∃ (H : Heap) (locs : List Loc), H = s.heap ∧ locs = [] := ⟨_, _, rfl, rfl⟩
  have hP : va_P D vwCl [(h_m, .inr (5, [.int th, .int nd, .int sw, .int so, .int lo, .ref a_one, .ref a_oth, .ref a_isb, .int cl, .int ea, .int on, .int lg, .ref a_log, .int wr, .ref a_seq, .int pe, .ref a_mho, .ref a_mih, .ref a_far]))] H := by rw [hHe]; exact hP
  have hS : va_S A s.heap H locs := by rw [hHe, hLe]; exact hS
  have hW0 : ∀ QQ : State → Prop, W p l e (headSpec wsX5_does rmX5_does).room s m (([.ref h_m, .int p0, .int p1] : List Value).toArray) below meth c H locs 0 0 QQ (F0 m 0 ls []) → W p l e (headSpec wsX5_does rmX5_does).room s m (([.ref h_m, .int p0, .int p1] : List Value).toArray) below meth c s.heap [] 0 0 QQ (F0 m 0 ls []) := by rw [hHe, hLe]; exact fun _ h => h
  refine hW0 _ ?_
  clear hW0
  unfold fX5_does at h
  refine lv_iconst (v := 1) hx hb dX5_does_0 (by decide) ?_
  refine lv_iload_n hx hb dX5_does_1 rfl (lv_at hl 2 rfl) ?_
  refine lv_ishl hx hb dX5_does_2 ?_
  refine lv_istore_n (lv' := [(3, .int ((1 : Int32) <<< (p1 &&& 31))), (0, .ref h_m), (1, .int p0), (2, .int p1)]) hx hb dX5_does_3 rfl hl (by decide) rfl (fun ls hl => ?_)
  refine lv_aload_n hx hb dX5_does_4 rfl (lv_at hl 1 rfl) ?_
  refine lv_iload_n hx hb dX5_does_5 rfl (lv_at hl 2 rfl) ?_
  refine jn1_e (fun (y1 : Int32) => ∀ (H : Heap) (locs : List Loc) (ls : Array Slot), va_P D vwCl [(h_m, .inr (5, [.int th, .int nd, .int sw, .int so, .int lo, .ref a_one, .ref a_oth, .ref a_isb, .int cl, .int ea, .int on, .int lg, .ref a_log, .int wr, .ref a_seq, .int pe, .ref a_mho, .ref a_mih, .ref a_far]))] H → va_D A [(h_m, .inr (5, [.int th, .int nd, .int sw, .int so, .int lo, .ref a_one, .ref a_oth, .ref a_isb, .int cl, .int ea, .int on, .int lg, .ref a_log, .int wr, .ref a_seq, .int pe, .ref a_mho, .ref a_mih, .ref a_far]))] → va_S A s.heap H locs → lv_has ls 4 [(3, .int ((1 : Int32) <<< (p1 &&& 31))), (0, .ref h_m), (1, .int p0), (2, .int p1)] → W p l e (headSpec wsX5_does rmX5_does).room s m (([.ref h_m, .int p0, .int p1] : List Value).toArray) below meth c H locs 0 0 QQ (F0 m 38 ls [.int y1, .ref h_m])) h (fun y1 h H locs ls hP hD hS hl => ?_) (fun g38_2 hg38_3 h => ?_)
  · refine va_put (D := D) (ci := 5) (v := .int y1) (ty := .int) (C := RX5) (T := TX5) (N := 19) hx hb hts inX5_does_X5 tyX5 tyX5_ok nmX5 hown hK hP hD hS 0 rfl rfl 8 (by decide) (hts _ lkX5_does_0) (fun _ h9 => h9) rfl (by decide +kernel) rfl rfl (Nat.le_of_ble_eq_true rfl) dX5_does_38 (fun H locs hP hD hS => ?_)
    have hP : va_P D vwCl [(h_m, .inr (5, [.int th, .int nd, .int sw, .int so, .int lo, .ref a_one, .ref a_oth, .ref a_isb, .int y1, .int ea, .int on, .int lg, .ref a_log, .int wr, .ref a_seq, .int pe, .ref a_mho, .ref a_mih, .ref a_far]))] H := hP
    have hD : va_D A [(h_m, .inr (5, [.int th, .int nd, .int sw, .int so, .int lo, .ref a_one, .ref a_oth, .ref a_isb, .int y1, .int ea, .int on, .int lg, .ref a_log, .int wr, .ref a_seq, .int pe, .ref a_mho, .ref a_mih, .ref a_far]))] := hD
    refine lv_aload_n hx hb dX5_does_41 rfl (lv_at hl 1 rfl) ?_
    refine lv_iload_n hx hb dX5_does_42 rfl (lv_at hl 2 rfl) ?_
    refine lv_iconst (v := 2) hx hb dX5_does_43 (by decide) ?_
    refine jn1_e (fun (y4 : Int32) => ∀ (H : Heap) (locs : List Loc) (ls : Array Slot), va_P D vwCl [(h_m, .inr (5, [.int th, .int nd, .int sw, .int so, .int lo, .ref a_one, .ref a_oth, .ref a_isb, .int y1, .int ea, .int on, .int lg, .ref a_log, .int wr, .ref a_seq, .int pe, .ref a_mho, .ref a_mih, .ref a_far]))] H → va_D A [(h_m, .inr (5, [.int th, .int nd, .int sw, .int so, .int lo, .ref a_one, .ref a_oth, .ref a_isb, .int y1, .int ea, .int on, .int lg, .ref a_log, .int wr, .ref a_seq, .int pe, .ref a_mho, .ref a_mih, .ref a_far]))] → va_S A s.heap H locs → lv_has ls 4 [(3, .int ((1 : Int32) <<< (p1 &&& 31))), (0, .ref h_m), (1, .int p0), (2, .int p1)] → W p l e (headSpec wsX5_does rmX5_does).room s m (([.ref h_m, .int p0, .int p1] : List Value).toArray) below meth c H locs 0 0 QQ (F0 m 76 ls [.int y4, .ref h_m])) h (fun y4 h H locs ls hP hD hS hl => ?_) (fun g76_5 hg76_6 h => ?_)
    · refine va_put (D := D) (ci := 5) (v := .int y4) (ty := .int) (C := RX5) (T := TX5) (N := 19) hx hb hts inX5_does_X5 tyX5 tyX5_ok nmX5 hown hK hP hD hS 0 rfl rfl 9 (by decide) (hts _ lkX5_does_1) (fun _ h9 => h9) rfl (by decide +kernel) rfl rfl (Nat.le_of_ble_eq_true rfl) dX5_does_76 (fun H locs hP hD hS => ?_)
      have hP : va_P D vwCl [(h_m, .inr (5, [.int th, .int nd, .int sw, .int so, .int lo, .ref a_one, .ref a_oth, .ref a_isb, .int y1, .int y4, .int on, .int lg, .ref a_log, .int wr, .ref a_seq, .int pe, .ref a_mho, .ref a_mih, .ref a_far]))] H := hP
      have hD : va_D A [(h_m, .inr (5, [.int th, .int nd, .int sw, .int so, .int lo, .ref a_one, .ref a_oth, .ref a_isb, .int y1, .int y4, .int on, .int lg, .ref a_log, .int wr, .ref a_seq, .int pe, .ref a_mho, .ref a_mih, .ref a_far]))] := hD
      refine lv_aload_n hx hb dX5_does_79 rfl (lv_at hl 1 rfl) ?_
      refine lv_iload_n hx hb dX5_does_80 rfl (lv_at hl 2 rfl) ?_
      refine lv_iconst (v := 4) hx hb dX5_does_81 (by decide) ?_
      refine lv_icmp_ne (tgt := 94) hx hb dX5_does_82 (by decide) (fun c7 => ?_) (fun c7 => ?_)
      · have h := it_f h c7
        refine lv_iload_n hx hb dX5_does_94 rfl (lv_at hl 2 rfl) ?_
        refine lv_iconst (v := 5) hx hb dX5_does_95 (by decide) ?_
        refine lv_icmp_ne (tgt := 110) hx hb dX5_does_96 (by decide) (fun c8 => ?_) (fun c8 => ?_)
        · have h := it_f h c8
          refine lv_aload_n hx hb dX5_does_110 rfl (lv_at hl 1 rfl) ?_
          refine va_get (D := D) (ci := 5) (v := .int on) (C := RX5) (T := TX5) (N := 19) hx hb hts inX5_does_X5 hown hK hP 0 rfl rfl 10 (by decide) (hts _ lkX5_does_2) (fun _ h9 => h9) rfl dX5_does_111 ?_
          refine va_put (D := D) (ci := 5) (v := .int on) (ty := .int) (C := RX5) (T := TX5) (N := 19) hx hb hts inX5_does_X5 tyX5 tyX5_ok nmX5 hown hK hP hD hS 0 rfl rfl 10 (by decide) (hts _ lkX5_does_2) (fun _ h9 => h9) rfl (by decide +kernel) rfl rfl (Nat.le_of_ble_eq_true rfl) dX5_does_114 (fun H locs hP hD hS => ?_)
          have hP : va_P D vwCl [(h_m, .inr (5, [.int th, .int nd, .int sw, .int so, .int lo, .ref a_one, .ref a_oth, .ref a_isb, .int y1, .int y4, .int on, .int lg, .ref a_log, .int wr, .ref a_seq, .int pe, .ref a_mho, .ref a_mih, .ref a_far]))] H := hP
          have hD : va_D A [(h_m, .inr (5, [.int th, .int nd, .int sw, .int so, .int lo, .ref a_one, .ref a_oth, .ref a_isb, .int y1, .int y4, .int on, .int lg, .ref a_log, .int wr, .ref a_seq, .int pe, .ref a_mho, .ref a_mih, .ref a_far]))] := hD
          cases h
          rw [hQQ]
          exact W.vret hx hb hr (fun t ht hW => ⟨rfl, by rw [ht]; exact hP, hD, hS.F ht⟩) hS.2.2 dX5_does_117
        · have h := it_t h c8
          refine lv_aload_n hx hb dX5_does_99 rfl (lv_at hl 1 rfl) ?_
          refine va_get (D := D) (ci := 5) (v := .int on) (C := RX5) (T := TX5) (N := 19) hx hb hts inX5_does_X5 hown hK hP 0 rfl rfl 10 (by decide) (hts _ lkX5_does_2) (fun _ h9 => h9) rfl dX5_does_100 ?_
          refine lv_iload_n hx hb dX5_does_103 rfl (lv_at hl 0 rfl) ?_
          refine lv_iconst (v := (-1)) hx hb dX5_does_104 (by decide) ?_
          refine lv_ixor hx hb dX5_does_105 ?_
          refine lv_iand hx hb dX5_does_106 ?_
          refine lv_goto (tgt := 114) hx hb dX5_does_107 (by decide) ?_
          refine va_put (D := D) (ci := 5) (v := .int (on &&& (((1 : Int32) <<< (p1 &&& 31)) ^^^ (-1)))) (ty := .int) (C := RX5) (T := TX5) (N := 19) hx hb hts inX5_does_X5 tyX5 tyX5_ok nmX5 hown hK hP hD hS 0 rfl rfl 10 (by decide) (hts _ lkX5_does_2) (fun _ h9 => h9) rfl (by decide +kernel) rfl rfl (Nat.le_of_ble_eq_true rfl) dX5_does_114 (fun H locs hP hD hS => ?_)
          have hP : va_P D vwCl [(h_m, .inr (5, [.int th, .int nd, .int sw, .int so, .int lo, .ref a_one, .ref a_oth, .ref a_isb, .int y1, .int y4, .int (on &&& (((1 : Int32) <<< (p1 &&& 31)) ^^^ (-1))), .int lg, .ref a_log, .int wr, .ref a_seq, .int pe, .ref a_mho, .ref a_mih, .ref a_far]))] H := hP
          have hD : va_D A [(h_m, .inr (5, [.int th, .int nd, .int sw, .int so, .int lo, .ref a_one, .ref a_oth, .ref a_isb, .int y1, .int y4, .int (on &&& (((1 : Int32) <<< (p1 &&& 31)) ^^^ (-1))), .int lg, .ref a_log, .int wr, .ref a_seq, .int pe, .ref a_mho, .ref a_mih, .ref a_far]))] := hD
          cases h
          rw [hQQ]
          exact W.vret hx hb hr (fun t ht hW => ⟨rfl, by rw [ht]; exact hP, hD, hS.F ht⟩) hS.2.2 dX5_does_117
      · have h := it_t h c7
        refine lv_aload_n hx hb dX5_does_85 rfl (lv_at hl 1 rfl) ?_
        refine va_get (D := D) (ci := 5) (v := .int on) (C := RX5) (T := TX5) (N := 19) hx hb hts inX5_does_X5 hown hK hP 0 rfl rfl 10 (by decide) (hts _ lkX5_does_2) (fun _ h9 => h9) rfl dX5_does_86 ?_
        refine lv_iload_n hx hb dX5_does_89 rfl (lv_at hl 0 rfl) ?_
        refine lv_ior hx hb dX5_does_90 ?_
        refine lv_goto (tgt := 114) hx hb dX5_does_91 (by decide) ?_
        refine va_put (D := D) (ci := 5) (v := .int (on ||| ((1 : Int32) <<< (p1 &&& 31)))) (ty := .int) (C := RX5) (T := TX5) (N := 19) hx hb hts inX5_does_X5 tyX5 tyX5_ok nmX5 hown hK hP hD hS 0 rfl rfl 10 (by decide) (hts _ lkX5_does_2) (fun _ h9 => h9) rfl (by decide +kernel) rfl rfl (Nat.le_of_ble_eq_true rfl) dX5_does_114 (fun H locs hP hD hS => ?_)
        have hP : va_P D vwCl [(h_m, .inr (5, [.int th, .int nd, .int sw, .int so, .int lo, .ref a_one, .ref a_oth, .ref a_isb, .int y1, .int y4, .int (on ||| ((1 : Int32) <<< (p1 &&& 31))), .int lg, .ref a_log, .int wr, .ref a_seq, .int pe, .ref a_mho, .ref a_mih, .ref a_far]))] H := hP
        have hD : va_D A [(h_m, .inr (5, [.int th, .int nd, .int sw, .int so, .int lo, .ref a_one, .ref a_oth, .ref a_isb, .int y1, .int y4, .int (on ||| ((1 : Int32) <<< (p1 &&& 31))), .int lg, .ref a_log, .int wr, .ref a_seq, .int pe, .ref a_mho, .ref a_mih, .ref a_far]))] := hD
        cases h
        rw [hQQ]
        exact W.vret hx hb hr (fun t ht hW => ⟨rfl, by rw [ht]; exact hP, hD, hS.F ht⟩) hS.2.2 dX5_does_117
    · refine lv_icmp_ne (tgt := 56) hx hb dX5_does_44 (by decide) (fun c9 => ?_) (fun c9 => ?_)
      · have h := it_f h c9
        refine lv_iload_n hx hb dX5_does_56 rfl (lv_at hl 2 rfl) ?_
        refine lv_iconst (v := 3) hx hb dX5_does_57 (by decide) ?_
        refine lv_icmp_ne (tgt := 72) hx hb dX5_does_58 (by decide) (fun c10 => ?_) (fun c10 => ?_)
        · have h := it_f h c10
          refine lv_aload_n hx hb dX5_does_72 rfl (lv_at hl 1 rfl) ?_
          refine va_get (D := D) (ci := 5) (v := .int ea) (C := RX5) (T := TX5) (N := 19) hx hb hts inX5_does_X5 hown hK hP 0 rfl rfl 9 (by decide) (hts _ lkX5_does_1) (fun _ h9 => h9) rfl dX5_does_73 ?_
          exact hg76_6 ea h H locs ls hP hD hS (lv_sub hl [0, 1, 2, 3] rfl)
        · have h := it_t h c10
          refine lv_aload_n hx hb dX5_does_61 rfl (lv_at hl 1 rfl) ?_
          refine va_get (D := D) (ci := 5) (v := .int ea) (C := RX5) (T := TX5) (N := 19) hx hb hts inX5_does_X5 hown hK hP 0 rfl rfl 9 (by decide) (hts _ lkX5_does_1) (fun _ h9 => h9) rfl dX5_does_62 ?_
          refine lv_iload_n hx hb dX5_does_65 rfl (lv_at hl 0 rfl) ?_
          refine lv_iconst (v := (-1)) hx hb dX5_does_66 (by decide) ?_
          refine lv_ixor hx hb dX5_does_67 ?_
          refine lv_iand hx hb dX5_does_68 ?_
          refine lv_goto (tgt := 76) hx hb dX5_does_69 (by decide) ?_
          exact hg76_6 (ea &&& (((1 : Int32) <<< (p1 &&& 31)) ^^^ (-1))) h H locs ls hP hD hS (lv_sub hl [0, 1, 2, 3] rfl)
      · have h := it_t h c9
        refine lv_aload_n hx hb dX5_does_47 rfl (lv_at hl 1 rfl) ?_
        refine va_get (D := D) (ci := 5) (v := .int ea) (C := RX5) (T := TX5) (N := 19) hx hb hts inX5_does_X5 hown hK hP 0 rfl rfl 9 (by decide) (hts _ lkX5_does_1) (fun _ h9 => h9) rfl dX5_does_48 ?_
        refine lv_iload_n hx hb dX5_does_51 rfl (lv_at hl 0 rfl) ?_
        refine lv_ior hx hb dX5_does_52 ?_
        refine lv_goto (tgt := 76) hx hb dX5_does_53 (by decide) ?_
        exact hg76_6 (ea ||| ((1 : Int32) <<< (p1 &&& 31))) h H locs ls hP hD hS (lv_sub hl [0, 1, 2, 3] rfl)
  · refine lv_if_ne (tgt := 20) hx hb dX5_does_6 (by decide) (fun c11 => ?_) (fun c11 => ?_)
    · have h := it_f h c11
      refine lv_iload_n hx hb dX5_does_20 rfl (lv_at hl 2 rfl) ?_
      refine lv_iconst (v := 1) hx hb dX5_does_21 (by decide) ?_
      refine lv_icmp_ne (tgt := 34) hx hb dX5_does_22 (by decide) (fun c12 => ?_) (fun c12 => ?_)
      · have h := it_f h c12
        refine lv_aload_n hx hb dX5_does_34 rfl (lv_at hl 1 rfl) ?_
        refine va_get (D := D) (ci := 5) (v := .int cl) (C := RX5) (T := TX5) (N := 19) hx hb hts inX5_does_X5 hown hK hP 0 rfl rfl 8 (by decide) (hts _ lkX5_does_0) (fun _ h9 => h9) rfl dX5_does_35 ?_
        exact hg38_3 cl h H locs ls hP hD hS (lv_sub hl [0, 1, 2, 3] rfl)
      · have h := it_t h c12
        refine lv_aload_n hx hb dX5_does_25 rfl (lv_at hl 1 rfl) ?_
        refine va_get (D := D) (ci := 5) (v := .int cl) (C := RX5) (T := TX5) (N := 19) hx hb hts inX5_does_X5 hown hK hP 0 rfl rfl 8 (by decide) (hts _ lkX5_does_0) (fun _ h9 => h9) rfl dX5_does_26 ?_
        refine lv_iload_n hx hb dX5_does_29 rfl (lv_at hl 0 rfl) ?_
        refine lv_ior hx hb dX5_does_30 ?_
        refine lv_goto (tgt := 38) hx hb dX5_does_31 (by decide) ?_
        exact hg38_3 (cl ||| ((1 : Int32) <<< (p1 &&& 31))) h H locs ls hP hD hS (lv_sub hl [0, 1, 2, 3] rfl)
    · have h := it_t h c11
      refine lv_aload_n hx hb dX5_does_9 rfl (lv_at hl 1 rfl) ?_
      refine va_get (D := D) (ci := 5) (v := .int cl) (C := RX5) (T := TX5) (N := 19) hx hb hts inX5_does_X5 hown hK hP 0 rfl rfl 8 (by decide) (hts _ lkX5_does_0) (fun _ h9 => h9) rfl dX5_does_10 ?_
      refine lv_iload_n hx hb dX5_does_13 rfl (lv_at hl 0 rfl) ?_
      refine lv_iconst (v := (-1)) hx hb dX5_does_14 (by decide) ?_
      refine lv_ixor hx hb dX5_does_15 ?_
      refine lv_iand hx hb dX5_does_16 ?_
      refine lv_goto (tgt := 38) hx hb dX5_does_17 (by decide) ?_
      exact hg38_3 (cl &&& (((1 : Int32) <<< (p1 &&& 31)) ^^^ (-1))) h H locs ls hP hD hS (lv_sub hl [0, 1, 2, 3] rfl)

def fX5_isSafe (N : Nat) (th : Int32) (nd : Int32) (sw : Int32) (so : Int32) (lo : Int32) (cl : Int32) (ea : Int32) (on : Int32) (lg : Int32) (wr : Int32) (pe : Int32) (one : Nat → Int32) (oth : Nat → Int32) (mho : Nat → Int32) (mih : Nat → Int32) (p0 : Int32) (p1 : Int32) : Option ((Int32) × (Int32) × (Int32) × (Int32)) :=
  bd3 (fX5_does N th nd sw so lo cl ea on lg wr pe p0 p1) (fun w2 w3 w4 => bd1 (fX5_areHeldSafe N th nd sw so lo w2 w3 w4 lg wr pe one oth mho mih) (fun v5 => gd (bz v5) (some (v5, cl, ea, on))))
set_option maxRecDepth 100000 in
theorem inX5_isSafe_X5 : ∀ w ∈ wsX50, w ∈ wsX5_isSafe := by decide +kernel
set_option maxRecDepth 100000 in
theorem lkX5_isSafe_0 : (.fieldLink RX5 76 "SwitchlogModel" "closed" "I" : Cond) ∈ wsX5_isSafe := by decide +kernel
set_option maxRecDepth 100000 in
theorem lkX5_isSafe_1 : (.fieldLink RX5 79 "SwitchlogModel" "earths" "I" : Cond) ∈ wsX5_isSafe := by decide +kernel
set_option maxRecDepth 100000 in
theorem lkX5_isSafe_2 : (.fieldLink RX5 67 "SwitchlogModel" "on" "I" : Cond) ∈ wsX5_isSafe := by decide +kernel
abbrev rmX5_isSafe : Room := { frames := 4, cells := 0, slots := 0, locals := 92 }
set_option maxHeartbeats 4000000 in
set_option maxRecDepth 100000 in
theorem kX5_isSafe (l : Launch) (D : va_G) (cI cZ cL : ClassId) (sz0 : Nat) (h_m a_isb a_log a_seq a_far h_one h_oth h_mho h_mih : Nat) (th : Int32) (nd : Int32) (sw : Int32) (so : Int32) (lo : Int32) (cl : Int32) (ea : Int32) (on : Int32) (lg : Int32) (wr : Int32) (pe : Int32) (one : Nat → Int32) (oth : Nat → Int32) (mho : Nat → Int32) (mih : Nat → Int32) (p0 : Int32) (p1 : Int32) (N : Nat) {r : Int32} {r_0 : Int32} {r_1 : Int32} {r_2 : Int32} (h : fX5_isSafe N th nd sw so lo cl ea on lg wr pe one oth mho mih p0 p1 = some (r, r_0, r_1, r_2)) : Met l yX5_isSafe wsX5_isSafe rmX5_isSafe (PM D cI cZ cL [.ref h_m, .int p0, .int p1] [(h_m, .inr (5, [.int th, .int nd, .int sw, .int so, .int lo, .ref h_one, .ref h_oth, .ref a_isb, .int cl, .int ea, .int on, .int lg, .ref a_log, .int wr, .ref a_seq, .int pe, .ref h_mho, .ref h_mih, .ref a_far])), (h_one, .inl (cI, 24, .inl one)), (h_oth, .inl (cI, 24, .inl oth)), (h_mho, .inl (cI, 10, .inl mho)), (h_mih, .inl (cZ, 10, .inl mih))] sz0) (QM D (some (.int r)) (va_A [(h_m, .inr (5, [.int th, .int nd, .int sw, .int so, .int lo, .ref h_one, .ref h_oth, .ref a_isb, .int cl, .int ea, .int on, .int lg, .ref a_log, .int wr, .ref a_seq, .int pe, .ref h_mho, .ref h_mih, .ref a_far])), (h_one, .inl (cI, 24, .inl one)), (h_oth, .inl (cI, 24, .inl oth)), (h_mho, .inl (cI, 10, .inl mho)), (h_mih, .inl (cZ, 10, .inl mih))] sz0) [(h_m, .inr (5, [.int th, .int nd, .int sw, .int so, .int lo, .ref h_one, .ref h_oth, .ref a_isb, .int r_0, .int r_1, .int r_2, .int lg, .ref a_log, .int wr, .ref a_seq, .int pe, .ref h_mho, .ref h_mih, .ref a_far])), (h_one, .inl (cI, 24, .inl one)), (h_oth, .inl (cI, 24, .inl oth)), (h_mho, .inl (cI, 10, .inl mho)), (h_mih, .inl (cZ, 10, .inl mih))]) 0 0 (va_A [(h_m, .inr (5, [.int th, .int nd, .int sw, .int so, .int lo, .ref h_one, .ref h_oth, .ref a_isb, .int cl, .int ea, .int on, .int lg, .ref a_log, .int wr, .ref a_seq, .int pe, .ref h_mho, .ref h_mih, .ref a_far])), (h_one, .inl (cI, 24, .inl one)), (h_oth, .inl (cI, 24, .inl oth)), (h_mho, .inl (cI, 10, .inl mho)), (h_mih, .inl (cZ, 10, .inl mih))] sz0) := by
  refine Met.ofW (cc := cX5_isSafe) (maxL := 7) (ret := (some .boolean)) (by decide) rfl ?_
  intro p e s m args below meth c s₁ B hml hv
  obtain ⟨rfl, hsz, hP, hKK, hD0⟩ := hv
  have hK := hKK.1
  have hx := B.exec
  have hb := B.bytes
  have hr := B.returns
  have hts := atoms_spec (ws := wsX5_isSafe) B.pre
  have hown : s.vm.findClass RX5 = some m.cls := findClass_of_methodNamed B.named
  have hlocks := B.notSynchronized
  subst hsz
  have hD := hD0.self (sz := s.heap.size)
  generalize hAe : va_A [(h_m, .inr (5, [.int th, .int nd, .int sw, .int so, .int lo, .ref h_one, .ref h_oth, .ref a_isb, .int cl, .int ea, .int on, .int lg, .ref a_log, .int wr, .ref a_seq, .int pe, .ref h_mho, .ref h_mih, .ref a_far])), (h_one, .inl (cI, 24, .inl one)), (h_oth, .inl (cI, 24, .inl oth)), (h_mho, .inl (cI, 10, .inl mho)), (h_mih, .inl (cZ, 10, .inl mih))] s.heap.size = A at hD ⊢
  have hA : ∀ q : Nat, s.heap.size ≤ q → A q := fun q h => by rw [← hAe]; exact Or.inr h
  have hS : va_S A s.heap s.heap [] := va_S.rf
  have hl := lv_entry ([.ref h_m, .int p0, .int p1]) (n := 7) (Nat.le_of_ble_eq_true rfl)
  rw [lg_entry_eq]
  generalize (lg_sl ([.ref h_m, .int p0, .int p1]) ++ List.replicate (7 - (lg_sl ([.ref h_m, .int p0, .int p1])).length) Slot.unset).toArray = ls at hl ⊢
  have hl : lv_has ls 7 [(0, .ref h_m), (1, .int p0), (2, .int p1)] := hl
  obtain ⟨QQ, hQQ⟩ : ∃ Z, Z = MQ below (QM D (some (.int r)) A [(h_m, .inr (5, [.int th, .int nd, .int sw, .int so, .int lo, .ref h_one, .ref h_oth, .ref a_isb, .int r_0, .int r_1, .int r_2, .int lg, .ref a_log, .int wr, .ref a_seq, .int pe, .ref h_mho, .ref h_mih, .ref a_far])), (h_one, .inl (cI, 24, .inl one)), (h_oth, .inl (cI, 24, .inl oth)), (h_mho, .inl (cI, 10, .inl mho)), (h_mih, .inl (cZ, 10, .inl mih))]) ([.ref h_m, .int p0, .int p1] : List Value).toArray s 0 0 A := ⟨_, rfl⟩
  rw [← hQQ]
  obtain ⟨H, locs, hHe, hLe⟩ : ∃ (H : Heap) (locs : List Loc), H = s.heap ∧ locs = [] := ⟨_, _, rfl, rfl⟩
  have hP : va_P D vwCl [(h_m, .inr (5, [.int th, .int nd, .int sw, .int so, .int lo, .ref h_one, .ref h_oth, .ref a_isb, .int cl, .int ea, .int on, .int lg, .ref a_log, .int wr, .ref a_seq, .int pe, .ref h_mho, .ref h_mih, .ref a_far])), (h_one, .inl (cI, 24, .inl one)), (h_oth, .inl (cI, 24, .inl oth)), (h_mho, .inl (cI, 10, .inl mho)), (h_mih, .inl (cZ, 10, .inl mih))] H := by rw [hHe]; exact hP
  have hS : va_S A s.heap H locs := by rw [hHe, hLe]; exact hS
  have hW0 : ∀ QQ : State → Prop, W p l e (headSpec wsX5_isSafe rmX5_isSafe).room s m (([.ref h_m, .int p0, .int p1] : List Value).toArray) below meth c H locs 0 0 QQ (F0 m 0 ls []) → W p l e (headSpec wsX5_isSafe rmX5_isSafe).room s m (([.ref h_m, .int p0, .int p1] : List Value).toArray) below meth c s.heap [] 0 0 QQ (F0 m 0 ls []) := by rw [hHe, hLe]; exact fun _ h => h
  refine hW0 _ ?_
  clear hW0
  unfold fX5_isSafe at h
  refine lv_aload_n hx hb dX5_isSafe_0 rfl (lv_at hl 0 rfl) ?_
  refine va_get (D := D) (ci := 5) (v := .int cl) (C := RX5) (T := TX5) (N := 19) hx hb hts inX5_isSafe_X5 hown hK hP 0 rfl rfl 8 (by decide) (hts _ lkX5_isSafe_0) (fun _ h9 => h9) rfl dX5_isSafe_1 ?_
  refine lv_istore_n (lv' := [(3, .int cl), (0, .ref h_m), (1, .int p0), (2, .int p1)]) hx hb dX5_isSafe_4 rfl hl (by decide) rfl (fun ls hl => ?_)
  refine lv_aload_n hx hb dX5_isSafe_5 rfl (lv_at hl 1 rfl) ?_
  refine va_get (D := D) (ci := 5) (v := .int ea) (C := RX5) (T := TX5) (N := 19) hx hb hts inX5_isSafe_X5 hown hK hP 0 rfl rfl 9 (by decide) (hts _ lkX5_isSafe_1) (fun _ h9 => h9) rfl dX5_isSafe_6 ?_
  refine lv_istore (lv' := [(4, .int ea), (3, .int cl), (0, .ref h_m), (1, .int p0), (2, .int p1)]) hx hb dX5_isSafe_9 hl (by decide) rfl (fun ls hl => ?_)
  refine lv_aload_n hx hb dX5_isSafe_11 rfl (lv_at hl 2 rfl) ?_
  refine va_get (D := D) (ci := 5) (v := .int on) (C := RX5) (T := TX5) (N := 19) hx hb hts inX5_isSafe_X5 hown hK hP 0 rfl rfl 10 (by decide) (hts _ lkX5_isSafe_2) (fun _ h9 => h9) rfl dX5_isSafe_12 ?_
  refine lv_istore (lv' := [(5, .int on), (4, .int ea), (3, .int cl), (0, .ref h_m), (1, .int p0), (2, .int p1)]) hx hb dX5_isSafe_15 hl (by decide) rfl (fun ls hl => ?_)
  refine lv_aload_n hx hb dX5_isSafe_17 rfl (lv_at hl 3 rfl) ?_
  refine lv_iload_n hx hb dX5_isSafe_18 rfl (lv_at hl 4 rfl) ?_
  refine lv_iload_n hx hb dX5_isSafe_19 rfl (lv_at hl 5 rfl) ?_
  obtain ⟨w2, w3, w4, hq1, h⟩ := bd3_e h
  refine zz_mV (As := [.int p0, .int p1]) (wr := [(h_one, .inl (cI, 24, .inl one)), (h_oth, .inl (cI, 24, .inl oth)), (h_mho, .inl (cI, 10, .inl mho)), (h_mih, .inl (cZ, 10, .inl mih))]) (w1 := [(h_m, .inr (5, [.int th, .int nd, .int sw, .int so, .int lo, .ref h_one, .ref h_oth, .ref a_isb, .int w2, .int w3, .int w4, .int lg, .ref a_log, .int wr, .ref a_seq, .int pe, .ref h_mho, .ref h_mih, .ref a_far]))]) (wt' := [(h_m, .inr (5, [.int th, .int nd, .int sw, .int so, .int lo, .ref h_one, .ref h_oth, .ref a_isb, .int w2, .int w3, .int w4, .int lg, .ref a_log, .int wr, .ref a_seq, .int pe, .ref h_mho, .ref h_mih, .ref a_far])), (h_one, .inl (cI, 24, .inl one)), (h_oth, .inl (cI, 24, .inl oth)), (h_mho, .inl (cI, 10, .inl mho)), (h_mih, .inl (cZ, 10, .inl mih))]) (wc := [(h_m, .inr (5, [.int th, .int nd, .int sw, .int so, .int lo, .ref h_one, .ref h_oth, .ref a_isb, .int cl, .int ea, .int on, .int lg, .ref a_log, .int wr, .ref a_seq, .int pe, .ref h_mho, .ref h_mih, .ref a_far]))]) (rv := none) ⟨hx, hb, hml, hown, hts⟩ (kX5_does l D cI cZ cL H.size h_m h_one h_oth a_isb a_log a_seq h_mho h_mih a_far th nd sw so lo cl ea on lg wr pe p0 p1 N hq1) (cwV 2 hts gX5_isSafe_X5_does rfl rfl rfl (by decide +kernel) ⟨Nat.le_of_ble_eq_true rfl, Nat.le_of_ble_eq_true rfl⟩) hP hD hS hA hKK [0] [1, 2, 3, 4] [4, 0, 1, 2, 3] rfl rfl (by decide) (by decide) rfl (by decide) (by decide) (va_recv hK hP (ci := 5) (q0 := 0) rfl rfl) rfl hl.1 rfl (Nat.le_of_ble_eq_true rfl) dX5_isSafe_20 ⟨Nat.le_of_ble_eq_true rfl, Nat.le_of_ble_eq_true rfl⟩ (fun H locs hP hD hS hz9 => ?_)
  show W p l e _ s m _ below meth c H locs _ _ QQ (F0 m 23 ls [])
  refine lv_aload_n hx hb dX5_isSafe_23 rfl (lv_at hl 3 rfl) ?_
  obtain ⟨v5, hq6, h⟩ := bd1_e h
  refine zz_cV (As := []) ⟨hx, hb, hml, hown, hts⟩ (kX5_areHeldSafe l D cI cZ cL h_m a_isb a_log a_seq a_far h_one h_oth h_mho h_mih th nd sw so lo w2 w3 w4 lg wr pe one oth mho mih N hq6) (cwV 0 hts gX5_isSafe_X5_areHeldSafe rfl rfl rfl (by decide +kernel) ⟨Nat.le_of_ble_eq_true rfl, Nat.le_of_ble_eq_true rfl⟩) (hP.sub (ws' := [(h_m, .inr (5, [.int th, .int nd, .int sw, .int so, .int lo, .ref h_one, .ref h_oth, .ref a_isb, .int w2, .int w3, .int w4, .int lg, .ref a_log, .int wr, .ref a_seq, .int pe, .ref h_mho, .ref h_mih, .ref a_far])), (h_one, .inl (cI, 24, .inl one)), (h_oth, .inl (cI, 24, .inl oth)), (h_mho, .inl (cI, 10, .inl mho)), (h_mih, .inl (cZ, 10, .inl mih))]) [0, 1, 2, 3, 4] rfl) hKK (va_recv hK hP (ci := 5) (q0 := 0) rfl rfl) rfl hl.1 rfl (Nat.le_of_ble_eq_true rfl) dX5_isSafe_24 ⟨Nat.le_of_ble_eq_true rfl, Nat.le_of_ble_eq_true rfl⟩ ?_
  refine lv_istore (lv' := [(6, .int v5), (5, .int on), (4, .int ea), (3, .int cl), (0, .ref h_m), (1, .int p0), (2, .int p1)]) hx hb dX5_isSafe_27 hl (by decide) rfl (fun ls hl => ?_)
  refine lv_aload_n hx hb dX5_isSafe_29 rfl (lv_at hl 4 rfl) ?_
  refine lv_iload_n hx hb dX5_isSafe_30 rfl (lv_at hl 3 rfl) ?_
  refine va_put (D := D) (ci := 5) (v := .int cl) (ty := .int) (C := RX5) (T := TX5) (N := 19) hx hb hts inX5_isSafe_X5 tyX5 tyX5_ok nmX5 hown hK hP hD hS 0 rfl rfl 8 (by decide) (hts _ lkX5_isSafe_0) (fun _ h9 => h9) rfl (by decide +kernel) rfl rfl (Nat.le_of_ble_eq_true rfl) dX5_isSafe_31 (fun H locs hP hD hS => ?_)
  have hP : va_P D vwCl [(h_m, .inr (5, [.int th, .int nd, .int sw, .int so, .int lo, .ref h_one, .ref h_oth, .ref a_isb, .int cl, .int w3, .int w4, .int lg, .ref a_log, .int wr, .ref a_seq, .int pe, .ref h_mho, .ref h_mih, .ref a_far])), (h_one, .inl (cI, 24, .inl one)), (h_oth, .inl (cI, 24, .inl oth)), (h_mho, .inl (cI, 10, .inl mho)), (h_mih, .inl (cZ, 10, .inl mih))] H := hP
  have hD : va_D A [(h_m, .inr (5, [.int th, .int nd, .int sw, .int so, .int lo, .ref h_one, .ref h_oth, .ref a_isb, .int cl, .int w3, .int w4, .int lg, .ref a_log, .int wr, .ref a_seq, .int pe, .ref h_mho, .ref h_mih, .ref a_far])), (h_one, .inl (cI, 24, .inl one)), (h_oth, .inl (cI, 24, .inl oth)), (h_mho, .inl (cI, 10, .inl mho)), (h_mih, .inl (cZ, 10, .inl mih))] := hD
  refine lv_aload_n hx hb dX5_isSafe_34 rfl (lv_at hl 4 rfl) ?_
  refine lv_iload hx hb dX5_isSafe_35 (lv_at hl 2 rfl) ?_
  refine va_put (D := D) (ci := 5) (v := .int ea) (ty := .int) (C := RX5) (T := TX5) (N := 19) hx hb hts inX5_isSafe_X5 tyX5 tyX5_ok nmX5 hown hK hP hD hS 0 rfl rfl 9 (by decide) (hts _ lkX5_isSafe_1) (fun _ h9 => h9) rfl (by decide +kernel) rfl rfl (Nat.le_of_ble_eq_true rfl) dX5_isSafe_37 (fun H locs hP hD hS => ?_)
  have hP : va_P D vwCl [(h_m, .inr (5, [.int th, .int nd, .int sw, .int so, .int lo, .ref h_one, .ref h_oth, .ref a_isb, .int cl, .int ea, .int w4, .int lg, .ref a_log, .int wr, .ref a_seq, .int pe, .ref h_mho, .ref h_mih, .ref a_far])), (h_one, .inl (cI, 24, .inl one)), (h_oth, .inl (cI, 24, .inl oth)), (h_mho, .inl (cI, 10, .inl mho)), (h_mih, .inl (cZ, 10, .inl mih))] H := hP
  have hD : va_D A [(h_m, .inr (5, [.int th, .int nd, .int sw, .int so, .int lo, .ref h_one, .ref h_oth, .ref a_isb, .int cl, .int ea, .int w4, .int lg, .ref a_log, .int wr, .ref a_seq, .int pe, .ref h_mho, .ref h_mih, .ref a_far])), (h_one, .inl (cI, 24, .inl one)), (h_oth, .inl (cI, 24, .inl oth)), (h_mho, .inl (cI, 10, .inl mho)), (h_mih, .inl (cZ, 10, .inl mih))] := hD
  refine lv_aload_n hx hb dX5_isSafe_40 rfl (lv_at hl 4 rfl) ?_
  refine lv_iload hx hb dX5_isSafe_41 (lv_at hl 1 rfl) ?_
  refine va_put (D := D) (ci := 5) (v := .int on) (ty := .int) (C := RX5) (T := TX5) (N := 19) hx hb hts inX5_isSafe_X5 tyX5 tyX5_ok nmX5 hown hK hP hD hS 0 rfl rfl 10 (by decide) (hts _ lkX5_isSafe_2) (fun _ h9 => h9) rfl (by decide +kernel) rfl rfl (Nat.le_of_ble_eq_true rfl) dX5_isSafe_43 (fun H locs hP hD hS => ?_)
  have hP : va_P D vwCl [(h_m, .inr (5, [.int th, .int nd, .int sw, .int so, .int lo, .ref h_one, .ref h_oth, .ref a_isb, .int cl, .int ea, .int on, .int lg, .ref a_log, .int wr, .ref a_seq, .int pe, .ref h_mho, .ref h_mih, .ref a_far])), (h_one, .inl (cI, 24, .inl one)), (h_oth, .inl (cI, 24, .inl oth)), (h_mho, .inl (cI, 10, .inl mho)), (h_mih, .inl (cZ, 10, .inl mih))] H := hP
  have hD : va_D A [(h_m, .inr (5, [.int th, .int nd, .int sw, .int so, .int lo, .ref h_one, .ref h_oth, .ref a_isb, .int cl, .int ea, .int on, .int lg, .ref a_log, .int wr, .ref a_seq, .int pe, .ref h_mho, .ref h_mih, .ref a_far])), (h_one, .inl (cI, 24, .inl one)), (h_oth, .inl (cI, 24, .inl oth)), (h_mho, .inl (cI, 10, .inl mho)), (h_mih, .inl (cZ, 10, .inl mih))] := hD
  refine lv_iload hx hb dX5_isSafe_46 (lv_at hl 0 rfl) ?_
  obtain ⟨hz, h⟩ := gd_e h
  cases h
  rw [hQQ]
  exact W.zret hx hb hr (bz_e hz) (fun t ht hW => ⟨rfl, by rw [ht]; exact hP, hD, hS.F ht⟩) hS.2.2 dX5_isSafe_48

def fX5_why (N : Nat) (th : Int32) (nd : Int32) (sw : Int32) (so : Int32) (lo : Int32) (cl : Int32) (ea : Int32) (on : Int32) (lg : Int32) (wr : Int32) (pe : Int32) (one : Nat → Int32) (oth : Nat → Int32) (isb : Nat → Int32) (mho : Nat → Int32) (mih : Nat → Int32) (p0 : Int32) (p1 : Int32) : Option ((Int32) × (Int32) × (Int32) × (Int32)) :=
  bd1 (fX5_isReady N th nd sw so lo cl ea on lg wr pe p0 p1) (fun v1 => (if v1 = 0 then some (1, cl, ea, on) else bd1 (fX5_touched N th nd sw so lo cl ea on lg wr pe one oth p0 p1) (fun v4 => bd1 (fX5_heldNow N th nd sw so lo cl ea on lg wr pe mho mih) (fun v6 => (if (v4 &&& v6) = 0 then bd1 (fX5_isBarred N th nd sw so lo cl ea on lg wr pe one oth isb p0 p1) (fun v9 => (if v9 = 0 then bd4 (fX5_isSafe N th nd sw so lo cl ea on lg wr pe one oth mho mih p0 p1) (fun v13 w14 w15 w16 => (if v13 = 0 then some (4, w14, w15, w16) else some (0, w14, w15, w16))) else some (3, cl, ea, on))) else some (2, cl, ea, on))))))
abbrev rmX5_why : Room := { frames := 6, cells := 0, slots := 0, locals := 139 }
set_option maxHeartbeats 4000000 in
set_option maxRecDepth 100000 in
theorem kX5_why (l : Launch) (D : va_G) (cI cZ cL : ClassId) (sz0 : Nat) (h_m a_log a_seq a_far h_one h_oth h_isb h_mho h_mih : Nat) (th : Int32) (nd : Int32) (sw : Int32) (so : Int32) (lo : Int32) (cl : Int32) (ea : Int32) (on : Int32) (lg : Int32) (wr : Int32) (pe : Int32) (one : Nat → Int32) (oth : Nat → Int32) (isb : Nat → Int32) (mho : Nat → Int32) (mih : Nat → Int32) (p0 : Int32) (p1 : Int32) (N : Nat) {r : Int32} {r_0 : Int32} {r_1 : Int32} {r_2 : Int32} (h : fX5_why N th nd sw so lo cl ea on lg wr pe one oth isb mho mih p0 p1 = some (r, r_0, r_1, r_2)) : Met l yX5_why wsX5_why rmX5_why (PM D cI cZ cL [.ref h_m, .int p0, .int p1] [(h_m, .inr (5, [.int th, .int nd, .int sw, .int so, .int lo, .ref h_one, .ref h_oth, .ref h_isb, .int cl, .int ea, .int on, .int lg, .ref a_log, .int wr, .ref a_seq, .int pe, .ref h_mho, .ref h_mih, .ref a_far])), (h_one, .inl (cI, 24, .inl one)), (h_oth, .inl (cI, 24, .inl oth)), (h_isb, .inl (cZ, 24, .inl isb)), (h_mho, .inl (cI, 10, .inl mho)), (h_mih, .inl (cZ, 10, .inl mih))] sz0) (QM D (some (.int r)) (va_A [(h_m, .inr (5, [.int th, .int nd, .int sw, .int so, .int lo, .ref h_one, .ref h_oth, .ref h_isb, .int cl, .int ea, .int on, .int lg, .ref a_log, .int wr, .ref a_seq, .int pe, .ref h_mho, .ref h_mih, .ref a_far])), (h_one, .inl (cI, 24, .inl one)), (h_oth, .inl (cI, 24, .inl oth)), (h_isb, .inl (cZ, 24, .inl isb)), (h_mho, .inl (cI, 10, .inl mho)), (h_mih, .inl (cZ, 10, .inl mih))] sz0) [(h_m, .inr (5, [.int th, .int nd, .int sw, .int so, .int lo, .ref h_one, .ref h_oth, .ref h_isb, .int r_0, .int r_1, .int r_2, .int lg, .ref a_log, .int wr, .ref a_seq, .int pe, .ref h_mho, .ref h_mih, .ref a_far])), (h_one, .inl (cI, 24, .inl one)), (h_oth, .inl (cI, 24, .inl oth)), (h_isb, .inl (cZ, 24, .inl isb)), (h_mho, .inl (cI, 10, .inl mho)), (h_mih, .inl (cZ, 10, .inl mih))]) 0 0 (va_A [(h_m, .inr (5, [.int th, .int nd, .int sw, .int so, .int lo, .ref h_one, .ref h_oth, .ref h_isb, .int cl, .int ea, .int on, .int lg, .ref a_log, .int wr, .ref a_seq, .int pe, .ref h_mho, .ref h_mih, .ref a_far])), (h_one, .inl (cI, 24, .inl one)), (h_oth, .inl (cI, 24, .inl oth)), (h_isb, .inl (cZ, 24, .inl isb)), (h_mho, .inl (cI, 10, .inl mho)), (h_mih, .inl (cZ, 10, .inl mih))] sz0) := by
  refine Met.ofW (cc := cX5_why) (maxL := 3) (ret := (some .int)) (by decide) rfl ?_
  intro p e s m args below meth c s₁ B hml hv
  obtain ⟨rfl, hsz, hP, hKK, hD0⟩ := hv
  have hK := hKK.1
  have hx := B.exec
  have hb := B.bytes
  have hr := B.returns
  have hts := atoms_spec (ws := wsX5_why) B.pre
  have hown : s.vm.findClass RX5 = some m.cls := findClass_of_methodNamed B.named
  have hlocks := B.notSynchronized
  subst hsz
  have hD := hD0.self (sz := s.heap.size)
  generalize hAe : va_A [(h_m, .inr (5, [.int th, .int nd, .int sw, .int so, .int lo, .ref h_one, .ref h_oth, .ref h_isb, .int cl, .int ea, .int on, .int lg, .ref a_log, .int wr, .ref a_seq, .int pe, .ref h_mho, .ref h_mih, .ref a_far])), (h_one, .inl (cI, 24, .inl one)), (h_oth, .inl (cI, 24, .inl oth)), (h_isb, .inl (cZ, 24, .inl isb)), (h_mho, .inl (cI, 10, .inl mho)), (h_mih, .inl (cZ, 10, .inl mih))] s.heap.size = A at hD ⊢
  have hA : ∀ q : Nat, s.heap.size ≤ q → A q := fun q h => by rw [← hAe]; exact Or.inr h
  have hS : va_S A s.heap s.heap [] := va_S.rf
  have hl := lv_entry ([.ref h_m, .int p0, .int p1]) (n := 3) (Nat.le_of_ble_eq_true rfl)
  rw [lg_entry_eq]
  generalize (lg_sl ([.ref h_m, .int p0, .int p1]) ++ List.replicate (3 - (lg_sl ([.ref h_m, .int p0, .int p1])).length) Slot.unset).toArray = ls at hl ⊢
  have hl : lv_has ls 3 [(0, .ref h_m), (1, .int p0), (2, .int p1)] := hl
  obtain ⟨QQ, hQQ⟩ : ∃ Z, Z = MQ below (QM D (some (.int r)) A [(h_m, .inr (5, [.int th, .int nd, .int sw, .int so, .int lo, .ref h_one, .ref h_oth, .ref h_isb, .int r_0, .int r_1, .int r_2, .int lg, .ref a_log, .int wr, .ref a_seq, .int pe, .ref h_mho, .ref h_mih, .ref a_far])), (h_one, .inl (cI, 24, .inl one)), (h_oth, .inl (cI, 24, .inl oth)), (h_isb, .inl (cZ, 24, .inl isb)), (h_mho, .inl (cI, 10, .inl mho)), (h_mih, .inl (cZ, 10, .inl mih))]) ([.ref h_m, .int p0, .int p1] : List Value).toArray s 0 0 A := ⟨_, rfl⟩
  rw [← hQQ]
  obtain ⟨H, locs, hHe, hLe⟩ : ∃ (H : Heap) (locs : List Loc), H = s.heap ∧ locs = [] := ⟨_, _, rfl, rfl⟩
  have hP : va_P D vwCl [(h_m, .inr (5, [.int th, .int nd, .int sw, .int so, .int lo, .ref h_one, .ref h_oth, .ref h_isb, .int cl, .int ea, .int on, .int lg, .ref a_log, .int wr, .ref a_seq, .int pe, .ref h_mho, .ref h_mih, .ref a_far])), (h_one, .inl (cI, 24, .inl one)), (h_oth, .inl (cI, 24, .inl oth)), (h_isb, .inl (cZ, 24, .inl isb)), (h_mho, .inl (cI, 10, .inl mho)), (h_mih, .inl (cZ, 10, .inl mih))] H := by rw [hHe]; exact hP
  have hS : va_S A s.heap H locs := by rw [hHe, hLe]; exact hS
  have hW0 : ∀ QQ : State → Prop, W p l e (headSpec wsX5_why rmX5_why).room s m (([.ref h_m, .int p0, .int p1] : List Value).toArray) below meth c H locs 0 0 QQ (F0 m 0 ls []) → W p l e (headSpec wsX5_why rmX5_why).room s m (([.ref h_m, .int p0, .int p1] : List Value).toArray) below meth c s.heap [] 0 0 QQ (F0 m 0 ls []) := by rw [hHe, hLe]; exact fun _ h => h
  refine hW0 _ ?_
  clear hW0
  unfold fX5_why at h
  refine lv_aload_n hx hb dX5_why_0 rfl (lv_at hl 0 rfl) ?_
  refine lv_iload_n hx hb dX5_why_1 rfl (lv_at hl 1 rfl) ?_
  refine lv_iload_n hx hb dX5_why_2 rfl (lv_at hl 2 rfl) ?_
  obtain ⟨v1, hq2, h⟩ := bd1_e h
  refine zz_cV (As := [.int p0, .int p1]) ⟨hx, hb, hml, hown, hts⟩ (kX5_isReady l D cI cZ cL h_m h_one h_oth h_isb a_log a_seq h_mho h_mih a_far th nd sw so lo cl ea on lg wr pe p0 p1 N hq2) (cwV 2 hts gX5_why_X5_isReady rfl rfl rfl (by decide +kernel) ⟨Nat.le_of_ble_eq_true rfl, Nat.le_of_ble_eq_true rfl⟩) (hP.sub (ws' := [(h_m, .inr (5, [.int th, .int nd, .int sw, .int so, .int lo, .ref h_one, .ref h_oth, .ref h_isb, .int cl, .int ea, .int on, .int lg, .ref a_log, .int wr, .ref a_seq, .int pe, .ref h_mho, .ref h_mih, .ref a_far]))]) [0] rfl) hKK (va_recv hK hP (ci := 5) (q0 := 0) rfl rfl) rfl hl.1 rfl (Nat.le_of_ble_eq_true rfl) dX5_why_3 ⟨Nat.le_of_ble_eq_true rfl, Nat.le_of_ble_eq_true rfl⟩ ?_
  refine lv_if_ne (tgt := 11) hx hb dX5_why_6 (by decide) (fun c3 => ?_) (fun c3 => ?_)
  · have h := it_f h c3
    refine lv_aload_n hx hb dX5_why_11 rfl (lv_at hl 0 rfl) ?_
    refine lv_iload_n hx hb dX5_why_12 rfl (lv_at hl 1 rfl) ?_
    refine lv_iload_n hx hb dX5_why_13 rfl (lv_at hl 2 rfl) ?_
    obtain ⟨v4, hq5, h⟩ := bd1_e h
    refine zz_cV (As := [.int p0, .int p1]) ⟨hx, hb, hml, hown, hts⟩ (kX5_touched l D cI cZ cL h_m h_isb a_log a_seq h_mho h_mih a_far h_one h_oth th nd sw so lo cl ea on lg wr pe one oth p0 p1 N hq5) (cwV 2 hts gX5_why_X5_touched rfl rfl rfl (by decide +kernel) ⟨Nat.le_of_ble_eq_true rfl, Nat.le_of_ble_eq_true rfl⟩) (hP.sub (ws' := [(h_m, .inr (5, [.int th, .int nd, .int sw, .int so, .int lo, .ref h_one, .ref h_oth, .ref h_isb, .int cl, .int ea, .int on, .int lg, .ref a_log, .int wr, .ref a_seq, .int pe, .ref h_mho, .ref h_mih, .ref a_far])), (h_one, .inl (cI, 24, .inl one)), (h_oth, .inl (cI, 24, .inl oth))]) [0, 1, 2] rfl) hKK (va_recv hK hP (ci := 5) (q0 := 0) rfl rfl) rfl hl.1 rfl (Nat.le_of_ble_eq_true rfl) dX5_why_14 ⟨Nat.le_of_ble_eq_true rfl, Nat.le_of_ble_eq_true rfl⟩ ?_
    refine lv_aload_n hx hb dX5_why_17 rfl (lv_at hl 0 rfl) ?_
    obtain ⟨v6, hq7, h⟩ := bd1_e h
    refine zz_cV (As := []) ⟨hx, hb, hml, hown, hts⟩ (kX5_heldNow l D cI cZ cL h_m h_one h_oth h_isb a_log a_seq a_far h_mho h_mih th nd sw so lo cl ea on lg wr pe mho mih N hq7) (cwV 0 hts gX5_why_X5_heldNow rfl rfl rfl (by decide +kernel) ⟨Nat.le_of_ble_eq_true rfl, Nat.le_of_ble_eq_true rfl⟩) (hP.sub (ws' := [(h_m, .inr (5, [.int th, .int nd, .int sw, .int so, .int lo, .ref h_one, .ref h_oth, .ref h_isb, .int cl, .int ea, .int on, .int lg, .ref a_log, .int wr, .ref a_seq, .int pe, .ref h_mho, .ref h_mih, .ref a_far])), (h_mho, .inl (cI, 10, .inl mho)), (h_mih, .inl (cZ, 10, .inl mih))]) [0, 4, 5] rfl) hKK (va_recv hK hP (ci := 5) (q0 := 0) rfl rfl) rfl hl.1 rfl (Nat.le_of_ble_eq_true rfl) dX5_why_18 ⟨Nat.le_of_ble_eq_true rfl, Nat.le_of_ble_eq_true rfl⟩ ?_
    refine lv_iand hx hb dX5_why_21 ?_
    refine lv_if_eq (tgt := 27) hx hb dX5_why_22 (by decide) (fun c8 => ?_) (fun c8 => ?_)
    · have h := it_t h c8
      refine lv_aload_n hx hb dX5_why_27 rfl (lv_at hl 0 rfl) ?_
      refine lv_iload_n hx hb dX5_why_28 rfl (lv_at hl 1 rfl) ?_
      refine lv_iload_n hx hb dX5_why_29 rfl (lv_at hl 2 rfl) ?_
      obtain ⟨v9, hq10, h⟩ := bd1_e h
      refine zz_cV (As := [.int p0, .int p1]) ⟨hx, hb, hml, hown, hts⟩ (kX5_isBarred l D cI cZ cL h_m a_log a_seq h_mho h_mih a_far h_one h_oth h_isb th nd sw so lo cl ea on lg wr pe one oth isb p0 p1 N hq10) (cwV 2 hts gX5_why_X5_isBarred rfl rfl rfl (by decide +kernel) ⟨Nat.le_of_ble_eq_true rfl, Nat.le_of_ble_eq_true rfl⟩) (hP.sub (ws' := [(h_m, .inr (5, [.int th, .int nd, .int sw, .int so, .int lo, .ref h_one, .ref h_oth, .ref h_isb, .int cl, .int ea, .int on, .int lg, .ref a_log, .int wr, .ref a_seq, .int pe, .ref h_mho, .ref h_mih, .ref a_far])), (h_one, .inl (cI, 24, .inl one)), (h_oth, .inl (cI, 24, .inl oth)), (h_isb, .inl (cZ, 24, .inl isb))]) [0, 1, 2, 3] rfl) hKK (va_recv hK hP (ci := 5) (q0 := 0) rfl rfl) rfl hl.1 rfl (Nat.le_of_ble_eq_true rfl) dX5_why_30 ⟨Nat.le_of_ble_eq_true rfl, Nat.le_of_ble_eq_true rfl⟩ ?_
      refine lv_if_eq (tgt := 40) hx hb dX5_why_33 (by decide) (fun c11 => ?_) (fun c11 => ?_)
      · have h := it_t h c11
        refine lv_aload_n hx hb dX5_why_40 rfl (lv_at hl 0 rfl) ?_
        refine lv_iload_n hx hb dX5_why_41 rfl (lv_at hl 1 rfl) ?_
        refine lv_iload_n hx hb dX5_why_42 rfl (lv_at hl 2 rfl) ?_
        obtain ⟨v13, w14, w15, w16, hq12, h⟩ := bd4_e h
        refine zz_mV (As := [.int p0, .int p1]) (wr := [(h_isb, .inl (cZ, 24, .inl isb))]) (w1 := [(h_m, .inr (5, [.int th, .int nd, .int sw, .int so, .int lo, .ref h_one, .ref h_oth, .ref h_isb, .int w14, .int w15, .int w16, .int lg, .ref a_log, .int wr, .ref a_seq, .int pe, .ref h_mho, .ref h_mih, .ref a_far])), (h_one, .inl (cI, 24, .inl one)), (h_oth, .inl (cI, 24, .inl oth)), (h_mho, .inl (cI, 10, .inl mho)), (h_mih, .inl (cZ, 10, .inl mih))]) (wt' := [(h_m, .inr (5, [.int th, .int nd, .int sw, .int so, .int lo, .ref h_one, .ref h_oth, .ref h_isb, .int w14, .int w15, .int w16, .int lg, .ref a_log, .int wr, .ref a_seq, .int pe, .ref h_mho, .ref h_mih, .ref a_far])), (h_one, .inl (cI, 24, .inl one)), (h_oth, .inl (cI, 24, .inl oth)), (h_isb, .inl (cZ, 24, .inl isb)), (h_mho, .inl (cI, 10, .inl mho)), (h_mih, .inl (cZ, 10, .inl mih))]) (wc := [(h_m, .inr (5, [.int th, .int nd, .int sw, .int so, .int lo, .ref h_one, .ref h_oth, .ref h_isb, .int cl, .int ea, .int on, .int lg, .ref a_log, .int wr, .ref a_seq, .int pe, .ref h_mho, .ref h_mih, .ref a_far])), (h_one, .inl (cI, 24, .inl one)), (h_oth, .inl (cI, 24, .inl oth)), (h_mho, .inl (cI, 10, .inl mho)), (h_mih, .inl (cZ, 10, .inl mih))]) (rv := (some (.int v13))) ⟨hx, hb, hml, hown, hts⟩ (kX5_isSafe l D cI cZ cL H.size h_m h_isb a_log a_seq a_far h_one h_oth h_mho h_mih th nd sw so lo cl ea on lg wr pe one oth mho mih p0 p1 N hq12) (cwV 2 hts gX5_why_X5_isSafe rfl rfl rfl (by decide +kernel) ⟨Nat.le_of_ble_eq_true rfl, Nat.le_of_ble_eq_true rfl⟩) hP hD hS hA hKK [0, 1, 2, 4, 5] [3] [1, 2, 3, 0, 4, 5] rfl rfl (by decide) (by decide) rfl (by decide) (by decide) (va_recv hK hP (ci := 5) (q0 := 0) rfl rfl) rfl hl.1 rfl (Nat.le_of_ble_eq_true rfl) dX5_why_43 ⟨Nat.le_of_ble_eq_true rfl, Nat.le_of_ble_eq_true rfl⟩ (fun H locs hP hD hS hz9 => ?_)
        show W p l e _ s m _ below meth c H locs _ _ QQ (F0 m 46 ls (.int v13 :: []))
        refine lv_if_eq (tgt := 53) hx hb dX5_why_46 (by decide) (fun c17 => ?_) (fun c17 => ?_)
        · have h := it_t h c17
          refine lv_iconst (v := 4) hx hb dX5_why_53 (by decide) ?_
          cases h
          rw [hQQ]
          exact W.iret hx hb hr (fun t ht hW => ⟨rfl, by rw [ht]; exact hP, hD, hS.F ht⟩) hS.2.2 dX5_why_54
        · have h := it_f h c17
          refine lv_iconst (v := 0) hx hb dX5_why_49 (by decide) ?_
          refine lv_goto (tgt := 54) hx hb dX5_why_50 (by decide) ?_
          cases h
          rw [hQQ]
          exact W.iret hx hb hr (fun t ht hW => ⟨rfl, by rw [ht]; exact hP, hD, hS.F ht⟩) hS.2.2 dX5_why_54
      · have h := it_f h c11
        refine lv_iconst (v := 3) hx hb dX5_why_36 (by decide) ?_
        refine lv_goto (tgt := 54) hx hb dX5_why_37 (by decide) ?_
        cases h
        rw [hQQ]
        exact W.iret hx hb hr (fun t ht hW => ⟨rfl, by rw [ht]; exact hP, hD, hS.F ht⟩) hS.2.2 dX5_why_54
    · have h := it_f h c8
      refine lv_iconst (v := 2) hx hb dX5_why_25 (by decide) ?_
      cases h
      rw [hQQ]
      exact W.iret hx hb hr (fun t ht hW => ⟨rfl, by rw [ht]; exact hP, hD, hS.F ht⟩) hS.2.2 dX5_why_26
  · have h := it_t h c3
    refine lv_iconst (v := 1) hx hb dX5_why_9 (by decide) ?_
    cases h
    rw [hQQ]
    exact W.iret hx hb hr (fun t ht hW => ⟨rfl, by rw [ht]; exact hP, hD, hS.F ht⟩) hS.2.2 dX5_why_10

def fX5_asks (N : Nat) (th : Int32) (nd : Int32) (sw : Int32) (so : Int32) (lo : Int32) (cl : Int32) (ea : Int32) (on : Int32) (lg : Int32) (wr : Int32) (pe : Int32) (p0 : Int32) (p1 : Int32) : Option ((Int32) × (Int32)) :=
  bd1 (fX5_in N  p0 0 5) (fun v1 => jn1 (fun (y3 : Int32) => (if y3 = 0 then some (1, y3) else some (0, y3))) (fun g43_4 => (if v1 = 0 then g43_4 1 else (if 2 ≤ p0 then bd1 (fX5_isNode N th nd sw so lo cl ea on lg wr pe p1) (fun v9 => (if v9 = 0 then g43_4 2 else g43_4 0)) else bd1 (fX5_isSwitch N th nd sw so lo cl ea on lg wr pe p1) (fun v12 => (if v12 = 0 then g43_4 2 else g43_4 0))))))
set_option maxRecDepth 100000 in
theorem inX5_asks_X5 : ∀ w ∈ wsX50, w ∈ wsX5_asks := by decide +kernel
set_option maxRecDepth 100000 in
theorem lkX5_asks_0 : (.fieldLink RX5 35 "SwitchlogModel" "thrown" "I" : Cond) ∈ wsX5_asks := by decide +kernel
abbrev rmX5_asks : Room := { frames := 2, cells := 0, slots := 0, locals := 43 }
set_option maxHeartbeats 4000000 in
set_option maxRecDepth 100000 in
theorem kX5_asks (l : Launch) (D : va_G) (cI cZ cL : ClassId) (sz0 : Nat) (h_m a_one a_oth a_isb a_log a_seq a_mho a_mih a_far : Nat) (th : Int32) (nd : Int32) (sw : Int32) (so : Int32) (lo : Int32) (cl : Int32) (ea : Int32) (on : Int32) (lg : Int32) (wr : Int32) (pe : Int32) (p0 : Int32) (p1 : Int32) (N : Nat) {r : Int32} {r_0 : Int32} (h : fX5_asks N th nd sw so lo cl ea on lg wr pe p0 p1 = some (r, r_0)) : Met l yX5_asks wsX5_asks rmX5_asks (PM D cI cZ cL [.ref h_m, .int p0, .int p1] [(h_m, .inr (5, [.int th, .int nd, .int sw, .int so, .int lo, .ref a_one, .ref a_oth, .ref a_isb, .int cl, .int ea, .int on, .int lg, .ref a_log, .int wr, .ref a_seq, .int pe, .ref a_mho, .ref a_mih, .ref a_far]))] sz0) (QM D (some (.int r)) (va_A [(h_m, .inr (5, [.int th, .int nd, .int sw, .int so, .int lo, .ref a_one, .ref a_oth, .ref a_isb, .int cl, .int ea, .int on, .int lg, .ref a_log, .int wr, .ref a_seq, .int pe, .ref a_mho, .ref a_mih, .ref a_far]))] sz0) [(h_m, .inr (5, [.int r_0, .int nd, .int sw, .int so, .int lo, .ref a_one, .ref a_oth, .ref a_isb, .int cl, .int ea, .int on, .int lg, .ref a_log, .int wr, .ref a_seq, .int pe, .ref a_mho, .ref a_mih, .ref a_far]))]) 0 0 (va_A [(h_m, .inr (5, [.int th, .int nd, .int sw, .int so, .int lo, .ref a_one, .ref a_oth, .ref a_isb, .int cl, .int ea, .int on, .int lg, .ref a_log, .int wr, .ref a_seq, .int pe, .ref a_mho, .ref a_mih, .ref a_far]))] sz0) := by
  refine Met.ofW (cc := cX5_asks) (maxL := 3) (ret := (some .boolean)) (by decide) rfl ?_
  intro p e s m args below meth c s₁ B hml hv
  obtain ⟨rfl, hsz, hP, hKK, hD0⟩ := hv
  have hK := hKK.1
  have hx := B.exec
  have hb := B.bytes
  have hr := B.returns
  have hts := atoms_spec (ws := wsX5_asks) B.pre
  have hown : s.vm.findClass RX5 = some m.cls := findClass_of_methodNamed B.named
  have hlocks := B.notSynchronized
  subst hsz
  have hD := hD0.self (sz := s.heap.size)
  generalize hAe : va_A [(h_m, .inr (5, [.int th, .int nd, .int sw, .int so, .int lo, .ref a_one, .ref a_oth, .ref a_isb, .int cl, .int ea, .int on, .int lg, .ref a_log, .int wr, .ref a_seq, .int pe, .ref a_mho, .ref a_mih, .ref a_far]))] s.heap.size = A at hD ⊢
  have hA : ∀ q : Nat, s.heap.size ≤ q → A q := fun q h => by rw [← hAe]; exact Or.inr h
  have hS : va_S A s.heap s.heap [] := va_S.rf
  have hl := lv_entry ([.ref h_m, .int p0, .int p1]) (n := 3) (Nat.le_of_ble_eq_true rfl)
  rw [lg_entry_eq]
  generalize (lg_sl ([.ref h_m, .int p0, .int p1]) ++ List.replicate (3 - (lg_sl ([.ref h_m, .int p0, .int p1])).length) Slot.unset).toArray = ls at hl ⊢
  have hl : lv_has ls 3 [(0, .ref h_m), (1, .int p0), (2, .int p1)] := hl
  obtain ⟨QQ, hQQ⟩ : ∃ Z, Z = MQ below (QM D (some (.int r)) A [(h_m, .inr (5, [.int r_0, .int nd, .int sw, .int so, .int lo, .ref a_one, .ref a_oth, .ref a_isb, .int cl, .int ea, .int on, .int lg, .ref a_log, .int wr, .ref a_seq, .int pe, .ref a_mho, .ref a_mih, .ref a_far]))]) ([.ref h_m, .int p0, .int p1] : List Value).toArray s 0 0 A := ⟨_, rfl⟩
  rw [← hQQ]
  obtain ⟨H, locs, hHe, hLe⟩ : ∃ (H : Heap) (locs : List Loc), H = s.heap ∧ locs = [] := ⟨_, _, rfl, rfl⟩
  have hP : va_P D vwCl [(h_m, .inr (5, [.int th, .int nd, .int sw, .int so, .int lo, .ref a_one, .ref a_oth, .ref a_isb, .int cl, .int ea, .int on, .int lg, .ref a_log, .int wr, .ref a_seq, .int pe, .ref a_mho, .ref a_mih, .ref a_far]))] H := by rw [hHe]; exact hP
  have hS : va_S A s.heap H locs := by rw [hHe, hLe]; exact hS
  have hW0 : ∀ QQ : State → Prop, W p l e (headSpec wsX5_asks rmX5_asks).room s m (([.ref h_m, .int p0, .int p1] : List Value).toArray) below meth c H locs 0 0 QQ (F0 m 0 ls []) → W p l e (headSpec wsX5_asks rmX5_asks).room s m (([.ref h_m, .int p0, .int p1] : List Value).toArray) below meth c s.heap [] 0 0 QQ (F0 m 0 ls []) := by rw [hHe, hLe]; exact fun _ h => h
  refine hW0 _ ?_
  clear hW0
  unfold fX5_asks at h
  refine lv_aload_n hx hb dX5_asks_0 rfl (lv_at hl 0 rfl) ?_
  refine lv_iload_n hx hb dX5_asks_1 rfl (lv_at hl 1 rfl) ?_
  refine lv_iconst (v := 0) hx hb dX5_asks_2 (by decide) ?_
  refine lv_iconst (v := 5) hx hb dX5_asks_3 (by decide) ?_
  obtain ⟨v1, hq2, h⟩ := bd1_e h
  refine zz_cS (As := [.int p0, .int 0, .int 5]) ⟨hx, hb, hml, hown, hts⟩ (kX5_in l D cI cZ cL p0 0 5 N hq2) (va_cwS 3 hts gX5_asks_X5_in rfl rfl rfl (by decide +kernel) ⟨Nat.le_of_ble_eq_true rfl, Nat.le_of_ble_eq_true rfl⟩) (hP.sub (ws' := []) [] rfl) hKK rfl hl.1 rfl (Nat.le_of_ble_eq_true rfl) dX5_asks_4 ⟨Nat.le_of_ble_eq_true rfl, Nat.le_of_ble_eq_true rfl⟩ ?_
  refine jn1_e (fun (y3 : Int32) => ∀ (H : Heap) (locs : List Loc) (ls : Array Slot), va_P D vwCl [(h_m, .inr (5, [.int th, .int nd, .int sw, .int so, .int lo, .ref a_one, .ref a_oth, .ref a_isb, .int cl, .int ea, .int on, .int lg, .ref a_log, .int wr, .ref a_seq, .int pe, .ref a_mho, .ref a_mih, .ref a_far]))] H → va_D A [(h_m, .inr (5, [.int th, .int nd, .int sw, .int so, .int lo, .ref a_one, .ref a_oth, .ref a_isb, .int cl, .int ea, .int on, .int lg, .ref a_log, .int wr, .ref a_seq, .int pe, .ref a_mho, .ref a_mih, .ref a_far]))] → va_S A s.heap H locs → lv_has ls 3 [(0, .ref h_m), (1, .int p0), (2, .int p1)] → W p l e (headSpec wsX5_asks rmX5_asks).room s m (([.ref h_m, .int p0, .int p1] : List Value).toArray) below meth c H locs 0 0 QQ (F0 m 43 ls [.int y3, .ref h_m])) h (fun y3 h H locs ls hP hD hS hl => ?_) (fun g43_4 hg43_5 h => ?_)
  · refine va_put (D := D) (ci := 5) (v := .int y3) (ty := .int) (C := RX5) (T := TX5) (N := 19) hx hb hts inX5_asks_X5 tyX5 tyX5_ok nmX5 hown hK hP hD hS 0 rfl rfl 0 (by decide) (hts _ lkX5_asks_0) (fun _ h9 => h9) rfl (by decide +kernel) rfl rfl (Nat.le_of_ble_eq_true rfl) dX5_asks_43 (fun H locs hP hD hS => ?_)
    have hP : va_P D vwCl [(h_m, .inr (5, [.int y3, .int nd, .int sw, .int so, .int lo, .ref a_one, .ref a_oth, .ref a_isb, .int cl, .int ea, .int on, .int lg, .ref a_log, .int wr, .ref a_seq, .int pe, .ref a_mho, .ref a_mih, .ref a_far]))] H := hP
    have hD : va_D A [(h_m, .inr (5, [.int y3, .int nd, .int sw, .int so, .int lo, .ref a_one, .ref a_oth, .ref a_isb, .int cl, .int ea, .int on, .int lg, .ref a_log, .int wr, .ref a_seq, .int pe, .ref a_mho, .ref a_mih, .ref a_far]))] := hD
    refine lv_aload_n hx hb dX5_asks_46 rfl (lv_at hl 0 rfl) ?_
    refine va_get (D := D) (ci := 5) (v := .int y3) (C := RX5) (T := TX5) (N := 19) hx hb hts inX5_asks_X5 hown hK hP 0 rfl rfl 0 (by decide) (hts _ lkX5_asks_0) (fun _ h9 => h9) rfl dX5_asks_47 ?_
    refine lv_if_ne (tgt := 57) hx hb dX5_asks_50 (by decide) (fun c6 => ?_) (fun c6 => ?_)
    · have h := it_f h c6
      refine lv_iconst (v := 0) hx hb dX5_asks_57 (by decide) ?_
      cases h
      rw [hQQ]
      exact W.zret hx hb hr (by decide) (fun t ht hW => ⟨rfl, by rw [ht]; exact hP, hD, hS.F ht⟩) hS.2.2 dX5_asks_58
    · have h := it_t h c6
      refine lv_iconst (v := 1) hx hb dX5_asks_53 (by decide) ?_
      refine lv_goto (tgt := 58) hx hb dX5_asks_54 (by decide) ?_
      cases h
      rw [hQQ]
      exact W.zret hx hb hr (by decide) (fun t ht hW => ⟨rfl, by rw [ht]; exact hP, hD, hS.F ht⟩) hS.2.2 dX5_asks_58
  · refine lv_if_ne (tgt := 14) hx hb dX5_asks_7 (by decide) (fun c7 => ?_) (fun c7 => ?_)
    · have h := it_f h c7
      refine lv_iload_n hx hb dX5_asks_14 rfl (lv_at hl 1 rfl) ?_
      refine lv_iconst (v := 2) hx hb dX5_asks_15 (by decide) ?_
      refine lv_icmp_ge (tgt := 30) hx hb dX5_asks_16 (by decide) (fun c8 => ?_) (fun c8 => ?_)
      · have h := it_t h c8
        refine lv_aload_n hx hb dX5_asks_30 rfl (lv_at hl 0 rfl) ?_
        refine lv_iload_n hx hb dX5_asks_31 rfl (lv_at hl 2 rfl) ?_
        obtain ⟨v9, hq10, h⟩ := bd1_e h
        refine zz_cV (As := [.int p1]) ⟨hx, hb, hml, hown, hts⟩ (kX5_isNode l D cI cZ cL h_m a_one a_oth a_isb a_log a_seq a_mho a_mih a_far th nd sw so lo cl ea on lg wr pe p1 N hq10) (cwV 1 hts gX5_asks_X5_isNode rfl rfl rfl (by decide +kernel) ⟨Nat.le_of_ble_eq_true rfl, Nat.le_of_ble_eq_true rfl⟩) (hP.sub (ws' := [(h_m, .inr (5, [.int th, .int nd, .int sw, .int so, .int lo, .ref a_one, .ref a_oth, .ref a_isb, .int cl, .int ea, .int on, .int lg, .ref a_log, .int wr, .ref a_seq, .int pe, .ref a_mho, .ref a_mih, .ref a_far]))]) [0] rfl) hKK (va_recv hK hP (ci := 5) (q0 := 0) rfl rfl) rfl hl.1 rfl (Nat.le_of_ble_eq_true rfl) dX5_asks_32 ⟨Nat.le_of_ble_eq_true rfl, Nat.le_of_ble_eq_true rfl⟩ ?_
        refine lv_if_eq (tgt := 42) hx hb dX5_asks_35 (by decide) (fun c11 => ?_) (fun c11 => ?_)
        · have h := it_t h c11
          refine lv_iconst (v := 2) hx hb dX5_asks_42 (by decide) ?_
          exact hg43_5 2 h H locs ls hP hD hS (lv_sub hl [0, 1, 2] rfl)
        · have h := it_f h c11
          refine lv_iconst (v := 0) hx hb dX5_asks_38 (by decide) ?_
          refine lv_goto (tgt := 43) hx hb dX5_asks_39 (by decide) ?_
          exact hg43_5 0 h H locs ls hP hD hS (lv_sub hl [0, 1, 2] rfl)
      · have h := it_f h c8
        refine lv_aload_n hx hb dX5_asks_19 rfl (lv_at hl 0 rfl) ?_
        refine lv_iload_n hx hb dX5_asks_20 rfl (lv_at hl 2 rfl) ?_
        obtain ⟨v12, hq13, h⟩ := bd1_e h
        refine zz_cV (As := [.int p1]) ⟨hx, hb, hml, hown, hts⟩ (kX5_isSwitch l D cI cZ cL h_m a_one a_oth a_isb a_log a_seq a_mho a_mih a_far th nd sw so lo cl ea on lg wr pe p1 N hq13) (cwV 1 hts gX5_asks_X5_isSwitch rfl rfl rfl (by decide +kernel) ⟨Nat.le_of_ble_eq_true rfl, Nat.le_of_ble_eq_true rfl⟩) (hP.sub (ws' := [(h_m, .inr (5, [.int th, .int nd, .int sw, .int so, .int lo, .ref a_one, .ref a_oth, .ref a_isb, .int cl, .int ea, .int on, .int lg, .ref a_log, .int wr, .ref a_seq, .int pe, .ref a_mho, .ref a_mih, .ref a_far]))]) [0] rfl) hKK (va_recv hK hP (ci := 5) (q0 := 0) rfl rfl) rfl hl.1 rfl (Nat.le_of_ble_eq_true rfl) dX5_asks_21 ⟨Nat.le_of_ble_eq_true rfl, Nat.le_of_ble_eq_true rfl⟩ ?_
        refine lv_if_eq (tgt := 42) hx hb dX5_asks_24 (by decide) (fun c14 => ?_) (fun c14 => ?_)
        · have h := it_t h c14
          refine lv_iconst (v := 2) hx hb dX5_asks_42 (by decide) ?_
          exact hg43_5 2 h H locs ls hP hD hS (lv_sub hl [0, 1, 2] rfl)
        · have h := it_f h c14
          refine lv_goto (tgt := 38) hx hb dX5_asks_27 (by decide) ?_
          refine lv_iconst (v := 0) hx hb dX5_asks_38 (by decide) ?_
          refine lv_goto (tgt := 43) hx hb dX5_asks_39 (by decide) ?_
          exact hg43_5 0 h H locs ls hP hD hS (lv_sub hl [0, 1, 2] rfl)
    · have h := it_t h c7
      refine lv_iconst (v := 1) hx hb dX5_asks_10 (by decide) ?_
      refine lv_goto (tgt := 43) hx hb dX5_asks_11 (by decide) ?_
      exact hg43_5 1 h H locs ls hP hD hS (lv_sub hl [0, 1, 2] rfl)
