def fX4_isOfSwitch (N : Nat)  (p0 : Int32) : Option ((Int32)) :=
  (if p0 = 0 then some 1 else (if p0 = 1 then some 1 else some 0))
abbrev rmX4_isOfSwitch : Room := { frames := 0, cells := 0, slots := 0, locals := 0 }
set_option maxHeartbeats 4000000 in
set_option maxRecDepth 100000 in
theorem kX4_isOfSwitch (l : Launch) (D : va_G) (cI cZ cL : ClassId)  (p0 : Int32) (N : Nat) {r : Int32} (h : fX4_isOfSwitch N  p0 = some r) : Met l yX4_isOfSwitch wsX4_isOfSwitch rmX4_isOfSwitch (PR D cI cZ cL [.int p0] []) (vp_Si (fun z => z = r)) 0 0 (fun _ => False) := by
  refine Met.ofW (cc := cX4_isOfSwitch) (maxL := 1) (ret := (some .boolean)) (by decide) rfl ?_
  intro p e s m args below meth c s₁ B hml hv
  obtain ⟨rfl, hP, hKK⟩ := hv
  have hK := hKK.1
  have hx := B.exec
  have hb := B.bytes
  have hr := B.returns
  have hts := atoms_spec (ws := wsX4_isOfSwitch) B.pre
  have hown : s.vm.findClass RX4 = some m.cls := findClass_of_methodNamed B.named
  have hlocks := B.notSynchronized
  have hl := lv_entry ([.int p0]) (n := 1) (Nat.le_of_ble_eq_true rfl)
  rw [lg_entry_eq]
  generalize (lg_sl ([.int p0]) ++ List.replicate (1 - (lg_sl ([.int p0])).length) Slot.unset).toArray = ls at hl ⊢
  have hl : lv_has ls 1 [(0, .int p0)] := hl
  obtain ⟨QQ, hQQ⟩ : ∃ Z, Z = MQ below (vp_Si (fun z => z = r)) ([.int p0] : List Value).toArray s 0 0 (fun _ => False) := ⟨_, rfl⟩
  rw [← hQQ]
  unfold fX4_isOfSwitch at h
  refine lv_iload_n hx hb dX4_isOfSwitch_0 rfl (lv_at hl 0 rfl) ?_
  refine lv_if_eq (tgt := 9) hx hb dX4_isOfSwitch_1 (by decide) (fun c1 => ?_) (fun c1 => ?_)
  · have h := it_t h c1
    refine lv_iconst (v := 1) hx hb dX4_isOfSwitch_9 (by decide) ?_
    refine lv_goto (tgt := 14) hx hb dX4_isOfSwitch_10 (by decide) ?_
    rw [hQQ]
    exact W.zret (v := 1) hx hb hr (by decide) (fun t ht hW => ⟨_, rfl, Option.some.inj h, ht⟩) (fun q hq => absurd hq List.not_mem_nil) dX4_isOfSwitch_14
  · have h := it_f h c1
    refine lv_iload_n hx hb dX4_isOfSwitch_4 rfl (lv_at hl 0 rfl) ?_
    refine lv_iconst (v := 1) hx hb dX4_isOfSwitch_5 (by decide) ?_
    refine lv_icmp_ne (tgt := 13) hx hb dX4_isOfSwitch_6 (by decide) (fun c2 => ?_) (fun c2 => ?_)
    · have h := it_f h c2
      refine lv_iconst (v := 0) hx hb dX4_isOfSwitch_13 (by decide) ?_
      rw [hQQ]
      exact W.zret (v := 0) hx hb hr (by decide) (fun t ht hW => ⟨_, rfl, Option.some.inj h, ht⟩) (fun q hq => absurd hq List.not_mem_nil) dX4_isOfSwitch_14
    · have h := it_t h c2
      refine lv_iconst (v := 1) hx hb dX4_isOfSwitch_9 (by decide) ?_
      refine lv_goto (tgt := 14) hx hb dX4_isOfSwitch_10 (by decide) ?_
      rw [hQQ]
      exact W.zret (v := 1) hx hb hr (by decide) (fun t ht hW => ⟨_, rfl, Option.some.inj h, ht⟩) (fun q hq => absurd hq List.not_mem_nil) dX4_isOfSwitch_14

def fX4_turnsOn (N : Nat)  (p0 : Int32) : Option ((Int32)) :=
  (if p0 = 1 then some 1 else (if p0 = 2 then some 1 else (if p0 = 4 then some 1 else some 0)))
abbrev rmX4_turnsOn : Room := { frames := 0, cells := 0, slots := 0, locals := 0 }
set_option maxHeartbeats 4000000 in
set_option maxRecDepth 100000 in
theorem kX4_turnsOn (l : Launch) (D : va_G) (cI cZ cL : ClassId)  (p0 : Int32) (N : Nat) {r : Int32} (h : fX4_turnsOn N  p0 = some r) : Met l yX4_turnsOn wsX4_turnsOn rmX4_turnsOn (PR D cI cZ cL [.int p0] []) (vp_Si (fun z => z = r)) 0 0 (fun _ => False) := by
  refine Met.ofW (cc := cX4_turnsOn) (maxL := 1) (ret := (some .boolean)) (by decide) rfl ?_
  intro p e s m args below meth c s₁ B hml hv
  obtain ⟨rfl, hP, hKK⟩ := hv
  have hK := hKK.1
  have hx := B.exec
  have hb := B.bytes
  have hr := B.returns
  have hts := atoms_spec (ws := wsX4_turnsOn) B.pre
  have hown : s.vm.findClass RX4 = some m.cls := findClass_of_methodNamed B.named
  have hlocks := B.notSynchronized
  have hl := lv_entry ([.int p0]) (n := 1) (Nat.le_of_ble_eq_true rfl)
  rw [lg_entry_eq]
  generalize (lg_sl ([.int p0]) ++ List.replicate (1 - (lg_sl ([.int p0])).length) Slot.unset).toArray = ls at hl ⊢
  have hl : lv_has ls 1 [(0, .int p0)] := hl
  obtain ⟨QQ, hQQ⟩ : ∃ Z, Z = MQ below (vp_Si (fun z => z = r)) ([.int p0] : List Value).toArray s 0 0 (fun _ => False) := ⟨_, rfl⟩
  rw [← hQQ]
  unfold fX4_turnsOn at h
  refine lv_iload_n hx hb dX4_turnsOn_0 rfl (lv_at hl 0 rfl) ?_
  refine lv_iconst (v := 1) hx hb dX4_turnsOn_1 (by decide) ?_
  refine lv_icmp_eq (tgt := 15) hx hb dX4_turnsOn_2 (by decide) (fun c1 => ?_) (fun c1 => ?_)
  · have h := it_t h c1
    refine lv_iconst (v := 1) hx hb dX4_turnsOn_15 (by decide) ?_
    refine lv_goto (tgt := 20) hx hb dX4_turnsOn_16 (by decide) ?_
    rw [hQQ]
    exact W.zret (v := 1) hx hb hr (by decide) (fun t ht hW => ⟨_, rfl, Option.some.inj h, ht⟩) (fun q hq => absurd hq List.not_mem_nil) dX4_turnsOn_20
  · have h := it_f h c1
    refine lv_iload_n hx hb dX4_turnsOn_5 rfl (lv_at hl 0 rfl) ?_
    refine lv_iconst (v := 2) hx hb dX4_turnsOn_6 (by decide) ?_
    refine lv_icmp_eq (tgt := 15) hx hb dX4_turnsOn_7 (by decide) (fun c2 => ?_) (fun c2 => ?_)
    · have h := it_t h c2
      refine lv_iconst (v := 1) hx hb dX4_turnsOn_15 (by decide) ?_
      refine lv_goto (tgt := 20) hx hb dX4_turnsOn_16 (by decide) ?_
      rw [hQQ]
      exact W.zret (v := 1) hx hb hr (by decide) (fun t ht hW => ⟨_, rfl, Option.some.inj h, ht⟩) (fun q hq => absurd hq List.not_mem_nil) dX4_turnsOn_20
    · have h := it_f h c2
      refine lv_iload_n hx hb dX4_turnsOn_10 rfl (lv_at hl 0 rfl) ?_
      refine lv_iconst (v := 4) hx hb dX4_turnsOn_11 (by decide) ?_
      refine lv_icmp_ne (tgt := 19) hx hb dX4_turnsOn_12 (by decide) (fun c3 => ?_) (fun c3 => ?_)
      · have h := it_f h c3
        refine lv_iconst (v := 0) hx hb dX4_turnsOn_19 (by decide) ?_
        rw [hQQ]
        exact W.zret (v := 0) hx hb hr (by decide) (fun t ht hW => ⟨_, rfl, Option.some.inj h, ht⟩) (fun q hq => absurd hq List.not_mem_nil) dX4_turnsOn_20
      · have h := it_t h c3
        refine lv_iconst (v := 1) hx hb dX4_turnsOn_15 (by decide) ?_
        refine lv_goto (tgt := 20) hx hb dX4_turnsOn_16 (by decide) ?_
        rw [hQQ]
        exact W.zret (v := 1) hx hb hr (by decide) (fun t ht hW => ⟨_, rfl, Option.some.inj h, ht⟩) (fun q hq => absurd hq List.not_mem_nil) dX4_turnsOn_20

def fX4_actOf (N : Nat)  (p0 : Int32) (p1 : Int32) : Option ((Int32)) :=
  some (((100 : Int32) * p0) + p1)
abbrev rmX4_actOf : Room := { frames := 0, cells := 0, slots := 0, locals := 0 }
set_option maxHeartbeats 4000000 in
set_option maxRecDepth 100000 in
theorem kX4_actOf (l : Launch) (D : va_G) (cI cZ cL : ClassId)  (p0 : Int32) (p1 : Int32) (N : Nat) {r : Int32} (h : fX4_actOf N  p0 p1 = some r) : Met l yX4_actOf wsX4_actOf rmX4_actOf (PR D cI cZ cL [.int p0, .int p1] []) (vp_Si (fun z => z = r)) 0 0 (fun _ => False) := by
  refine Met.ofW (cc := cX4_actOf) (maxL := 2) (ret := (some .int)) (by decide) rfl ?_
  intro p e s m args below meth c s₁ B hml hv
  obtain ⟨rfl, hP, hKK⟩ := hv
  have hK := hKK.1
  have hx := B.exec
  have hb := B.bytes
  have hr := B.returns
  have hts := atoms_spec (ws := wsX4_actOf) B.pre
  have hown : s.vm.findClass RX4 = some m.cls := findClass_of_methodNamed B.named
  have hlocks := B.notSynchronized
  have hl := lv_entry ([.int p0, .int p1]) (n := 2) (Nat.le_of_ble_eq_true rfl)
  rw [lg_entry_eq]
  generalize (lg_sl ([.int p0, .int p1]) ++ List.replicate (2 - (lg_sl ([.int p0, .int p1])).length) Slot.unset).toArray = ls at hl ⊢
  have hl : lv_has ls 2 [(0, .int p0), (1, .int p1)] := hl
  obtain ⟨QQ, hQQ⟩ : ∃ Z, Z = MQ below (vp_Si (fun z => z = r)) ([.int p0, .int p1] : List Value).toArray s 0 0 (fun _ => False) := ⟨_, rfl⟩
  rw [← hQQ]
  unfold fX4_actOf at h
  refine lv_bipush (v := 100) hx hb dX4_actOf_0 (by decide) ?_
  refine lv_iload_n hx hb dX4_actOf_2 rfl (lv_at hl 0 rfl) ?_
  refine lv_imul hx hb dX4_actOf_3 ?_
  refine lv_iload_n hx hb dX4_actOf_4 rfl (lv_at hl 1 rfl) ?_
  refine lv_iadd hx hb dX4_actOf_5 ?_
  rw [hQQ]
  exact W.iret (v := ((100 : Int32) * p0) + p1) hx hb hr (fun t ht hW => ⟨_, rfl, Option.some.inj h, ht⟩) (fun q hq => absurd hq List.not_mem_nil) dX4_actOf_6

def fX4_kindOf (N : Nat)  (p0 : Int32) : Option ((Int32)) :=
  some (p0 / 100)
abbrev rmX4_kindOf : Room := { frames := 0, cells := 0, slots := 0, locals := 0 }
set_option maxHeartbeats 4000000 in
set_option maxRecDepth 100000 in
theorem kX4_kindOf (l : Launch) (D : va_G) (cI cZ cL : ClassId)  (p0 : Int32) (N : Nat) {r : Int32} (h : fX4_kindOf N  p0 = some r) : Met l yX4_kindOf wsX4_kindOf rmX4_kindOf (PR D cI cZ cL [.int p0] []) (vp_Si (fun z => z = r)) 0 0 (fun _ => False) := by
  refine Met.ofW (cc := cX4_kindOf) (maxL := 1) (ret := (some .int)) (by decide) rfl ?_
  intro p e s m args below meth c s₁ B hml hv
  obtain ⟨rfl, hP, hKK⟩ := hv
  have hK := hKK.1
  have hx := B.exec
  have hb := B.bytes
  have hr := B.returns
  have hts := atoms_spec (ws := wsX4_kindOf) B.pre
  have hown : s.vm.findClass RX4 = some m.cls := findClass_of_methodNamed B.named
  have hlocks := B.notSynchronized
  have hl := lv_entry ([.int p0]) (n := 1) (Nat.le_of_ble_eq_true rfl)
  rw [lg_entry_eq]
  generalize (lg_sl ([.int p0]) ++ List.replicate (1 - (lg_sl ([.int p0])).length) Slot.unset).toArray = ls at hl ⊢
  have hl : lv_has ls 1 [(0, .int p0)] := hl
  obtain ⟨QQ, hQQ⟩ : ∃ Z, Z = MQ below (vp_Si (fun z => z = r)) ([.int p0] : List Value).toArray s 0 0 (fun _ => False) := ⟨_, rfl⟩
  rw [← hQQ]
  unfold fX4_kindOf at h
  refine lv_iload_n hx hb dX4_kindOf_0 rfl (lv_at hl 0 rfl) ?_
  refine lv_bipush (v := 100) hx hb dX4_kindOf_1 (by decide) ?_
  refine lv_idiv hx hb dX4_kindOf_3 (by decide) ?_
  rw [hQQ]
  exact W.iret (v := p0 / 100) hx hb hr (fun t ht hW => ⟨_, rfl, Option.some.inj h, ht⟩) (fun q hq => absurd hq List.not_mem_nil) dX4_kindOf_4

def fX4_whatOf (N : Nat)  (p0 : Int32) : Option ((Int32)) :=
  some (p0 - p0 / 100 * 100)
abbrev rmX4_whatOf : Room := { frames := 0, cells := 0, slots := 0, locals := 0 }
set_option maxHeartbeats 4000000 in
set_option maxRecDepth 100000 in
theorem kX4_whatOf (l : Launch) (D : va_G) (cI cZ cL : ClassId)  (p0 : Int32) (N : Nat) {r : Int32} (h : fX4_whatOf N  p0 = some r) : Met l yX4_whatOf wsX4_whatOf rmX4_whatOf (PR D cI cZ cL [.int p0] []) (vp_Si (fun z => z = r)) 0 0 (fun _ => False) := by
  refine Met.ofW (cc := cX4_whatOf) (maxL := 1) (ret := (some .int)) (by decide) rfl ?_
  intro p e s m args below meth c s₁ B hml hv
  obtain ⟨rfl, hP, hKK⟩ := hv
  have hK := hKK.1
  have hx := B.exec
  have hb := B.bytes
  have hr := B.returns
  have hts := atoms_spec (ws := wsX4_whatOf) B.pre
  have hown : s.vm.findClass RX4 = some m.cls := findClass_of_methodNamed B.named
  have hlocks := B.notSynchronized
  have hl := lv_entry ([.int p0]) (n := 1) (Nat.le_of_ble_eq_true rfl)
  rw [lg_entry_eq]
  generalize (lg_sl ([.int p0]) ++ List.replicate (1 - (lg_sl ([.int p0])).length) Slot.unset).toArray = ls at hl ⊢
  have hl : lv_has ls 1 [(0, .int p0)] := hl
  obtain ⟨QQ, hQQ⟩ : ∃ Z, Z = MQ below (vp_Si (fun z => z = r)) ([.int p0] : List Value).toArray s 0 0 (fun _ => False) := ⟨_, rfl⟩
  rw [← hQQ]
  unfold fX4_whatOf at h
  refine lv_iload_n hx hb dX4_whatOf_0 rfl (lv_at hl 0 rfl) ?_
  refine lv_bipush (v := 100) hx hb dX4_whatOf_1 (by decide) ?_
  refine lv_irem hx hb dX4_whatOf_3 (by decide) ?_
  rw [hQQ]
  exact W.iret (v := p0 - p0 / 100 * 100) hx hb hr (fun t ht hW => ⟨_, rfl, Option.some.inj h, ht⟩) (fun q hq => absurd hq List.not_mem_nil) dX4_whatOf_4

def fX4_oppositeOf (N : Nat)  (p0 : Int32) : Option ((Int32)) :=
  bd1 (fX4_kindOf N  p0) (fun v1 => bd1 (fX4_whatOf N  p0) (fun v3 => bd1 (fX4_actOf N  (v1 ^^^ 1) v3) (fun v5 => some v5)))
abbrev rmX4_oppositeOf : Room := { frames := 1, cells := 0, slots := 0, locals := 21 }
set_option maxHeartbeats 4000000 in
set_option maxRecDepth 100000 in
theorem kX4_oppositeOf (l : Launch) (D : va_G) (cI cZ cL : ClassId)  (p0 : Int32) (N : Nat) {r : Int32} (h : fX4_oppositeOf N  p0 = some r) : Met l yX4_oppositeOf wsX4_oppositeOf rmX4_oppositeOf (PR D cI cZ cL [.int p0] []) (vp_Si (fun z => z = r)) 0 0 (fun _ => False) := by
  refine Met.ofW (cc := cX4_oppositeOf) (maxL := 1) (ret := (some .int)) (by decide) rfl ?_
  intro p e s m args below meth c s₁ B hml hv
  obtain ⟨rfl, hP, hKK⟩ := hv
  have hK := hKK.1
  have hx := B.exec
  have hb := B.bytes
  have hr := B.returns
  have hts := atoms_spec (ws := wsX4_oppositeOf) B.pre
  have hown : s.vm.findClass RX4 = some m.cls := findClass_of_methodNamed B.named
  have hlocks := B.notSynchronized
  have hl := lv_entry ([.int p0]) (n := 1) (Nat.le_of_ble_eq_true rfl)
  rw [lg_entry_eq]
  generalize (lg_sl ([.int p0]) ++ List.replicate (1 - (lg_sl ([.int p0])).length) Slot.unset).toArray = ls at hl ⊢
  have hl : lv_has ls 1 [(0, .int p0)] := hl
  obtain ⟨QQ, hQQ⟩ : ∃ Z, Z = MQ below (vp_Si (fun z => z = r)) ([.int p0] : List Value).toArray s 0 0 (fun _ => False) := ⟨_, rfl⟩
  rw [← hQQ]
  unfold fX4_oppositeOf at h
  refine lv_iload_n hx hb dX4_oppositeOf_0 rfl (lv_at hl 0 rfl) ?_
  obtain ⟨v1, hq2, h⟩ := bd1_e h
  refine zz_cS (As := [.int p0]) ⟨hx, hb, hml, hown, hts⟩ (kX4_kindOf l D cI cZ cL p0 N hq2) (va_cwS 1 hts gX4_oppositeOf_X4_kindOf rfl rfl rfl (by decide +kernel) ⟨Nat.le_of_ble_eq_true rfl, Nat.le_of_ble_eq_true rfl⟩) (hP.sub (ws' := []) [] rfl) hKK rfl hl.1 rfl (Nat.le_of_ble_eq_true rfl) dX4_oppositeOf_1 ⟨Nat.le_of_ble_eq_true rfl, Nat.le_of_ble_eq_true rfl⟩ ?_
  refine lv_iconst (v := 1) hx hb dX4_oppositeOf_4 (by decide) ?_
  refine lv_ixor hx hb dX4_oppositeOf_5 ?_
  refine lv_iload_n hx hb dX4_oppositeOf_6 rfl (lv_at hl 0 rfl) ?_
  obtain ⟨v3, hq4, h⟩ := bd1_e h
  refine zz_cS (As := [.int p0]) ⟨hx, hb, hml, hown, hts⟩ (kX4_whatOf l D cI cZ cL p0 N hq4) (va_cwS 1 hts gX4_oppositeOf_X4_whatOf rfl rfl rfl (by decide +kernel) ⟨Nat.le_of_ble_eq_true rfl, Nat.le_of_ble_eq_true rfl⟩) (hP.sub (ws' := []) [] rfl) hKK rfl hl.1 rfl (Nat.le_of_ble_eq_true rfl) dX4_oppositeOf_7 ⟨Nat.le_of_ble_eq_true rfl, Nat.le_of_ble_eq_true rfl⟩ ?_
  obtain ⟨v5, hq6, h⟩ := bd1_e h
  refine zz_cS (As := [.int (v1 ^^^ 1), .int v3]) ⟨hx, hb, hml, hown, hts⟩ (kX4_actOf l D cI cZ cL (v1 ^^^ 1) v3 N hq6) (va_cwS 2 hts gX4_oppositeOf_X4_actOf rfl rfl rfl (by decide +kernel) ⟨Nat.le_of_ble_eq_true rfl, Nat.le_of_ble_eq_true rfl⟩) (hP.sub (ws' := []) [] rfl) hKK rfl hl.1 rfl (Nat.le_of_ble_eq_true rfl) dX4_oppositeOf_10 ⟨Nat.le_of_ble_eq_true rfl, Nat.le_of_ble_eq_true rfl⟩ ?_
  rw [hQQ]
  exact W.iret (v := v5) hx hb hr (fun t ht hW => ⟨_, rfl, Option.some.inj h, ht⟩) (fun q hq => absurd hq List.not_mem_nil) dX4_oppositeOf_13

def fX4_nodes (N : Nat) (nc : Int32) (sc : Int32) (br : Int32) (so : Int32) (lo : Int32) : Option ((Int32)) :=
  bd1 (fX1_nodeCount N nc sc br so lo) (fun v1 => some v1)
set_option maxRecDepth 100000 in
theorem inX4_nodes_X4 : ∀ w ∈ wsX40, w ∈ wsX4_nodes := by decide +kernel
set_option maxRecDepth 100000 in
theorem lkX4_nodes_0 : (.fieldLink RX4 10 "Switchlog" "net" "LSwitchlog$Net;" : Cond) ∈ wsX4_nodes := by decide +kernel
abbrev rmX4_nodes : Room := { frames := 1, cells := 0, slots := 0, locals := 20 }
set_option maxHeartbeats 4000000 in
set_option maxRecDepth 100000 in
theorem kX4_nodes (l : Launch) (D : va_G) (cI cZ cL : ClassId) (h_x a_now a_don a_wri a_per a_tho a_aft h_net a_ends : Nat) (nc : Int32) (sc : Int32) (br : Int32) (so : Int32) (lo : Int32)  (N : Nat) {r : Int32} (h : fX4_nodes N nc sc br so lo  = some r) : Met l yX4_nodes wsX4_nodes rmX4_nodes (PR D cI cZ cL [.ref h_x] [(h_x, .inr (4, [.ref h_net, .ref a_now, .ref a_don, .ref a_wri, .ref a_per, .ref a_tho, .ref a_aft])), (h_net, .inr (1, [.ref a_ends, .int nc, .int sc, .int br, .int so, .int lo]))]) (vp_Si (fun z => z = r)) 0 0 (fun _ => False) := by
  refine Met.ofW (cc := cX4_nodes) (maxL := 1) (ret := (some .int)) (by decide) rfl ?_
  intro p e s m args below meth c s₁ B hml hv
  obtain ⟨rfl, hP, hKK⟩ := hv
  have hK := hKK.1
  have hx := B.exec
  have hb := B.bytes
  have hr := B.returns
  have hts := atoms_spec (ws := wsX4_nodes) B.pre
  have hown : s.vm.findClass RX4 = some m.cls := findClass_of_methodNamed B.named
  have hlocks := B.notSynchronized
  have hl := lv_entry ([.ref h_x]) (n := 1) (Nat.le_of_ble_eq_true rfl)
  rw [lg_entry_eq]
  generalize (lg_sl ([.ref h_x]) ++ List.replicate (1 - (lg_sl ([.ref h_x])).length) Slot.unset).toArray = ls at hl ⊢
  have hl : lv_has ls 1 [(0, .ref h_x)] := hl
  obtain ⟨QQ, hQQ⟩ : ∃ Z, Z = MQ below (vp_Si (fun z => z = r)) ([.ref h_x] : List Value).toArray s 0 0 (fun _ => False) := ⟨_, rfl⟩
  rw [← hQQ]
  unfold fX4_nodes at h
  refine lv_aload_n hx hb dX4_nodes_0 rfl (lv_at hl 0 rfl) ?_
  refine va_get (D := D) (ci := 4) (v := .ref h_net) (C := RX4) (T := TX4) (N := 7) hx hb hts inX4_nodes_X4 hown hK hP 0 rfl rfl 0 (by decide) (hts _ lkX4_nodes_0) (fun _ h9 => h9) rfl dX4_nodes_1 ?_
  obtain ⟨v1, hq2, h⟩ := bd1_e h
  refine zz_cV (As := []) ⟨hx, hb, hml, hown, hts⟩ (kX1_nodeCount l D cI cZ cL h_net a_ends nc sc br so lo N hq2) (cwV 0 hts gX4_nodes_X1_nodeCount rfl rfl rfl (by decide +kernel) ⟨Nat.le_of_ble_eq_true rfl, Nat.le_of_ble_eq_true rfl⟩) (hP.sub (ws' := [(h_net, .inr (1, [.ref a_ends, .int nc, .int sc, .int br, .int so, .int lo]))]) [1] rfl) hKK (va_recv hK hP (ci := 1) (q0 := 1) rfl rfl) rfl hl.1 rfl (Nat.le_of_ble_eq_true rfl) dX4_nodes_4 ⟨Nat.le_of_ble_eq_true rfl, Nat.le_of_ble_eq_true rfl⟩ ?_
  rw [hQQ]
  exact W.iret (v := v1) hx hb hr (fun t ht hW => ⟨_, rfl, Option.some.inj h, ht⟩) (fun q hq => absurd hq List.not_mem_nil) dX4_nodes_7

def fX4_switches (N : Nat) (nc : Int32) (sc : Int32) (br : Int32) (so : Int32) (lo : Int32) : Option ((Int32)) :=
  bd1 (fX1_switchCount N nc sc br so lo) (fun v1 => some v1)
set_option maxRecDepth 100000 in
theorem inX4_switches_X4 : ∀ w ∈ wsX40, w ∈ wsX4_switches := by decide +kernel
set_option maxRecDepth 100000 in
theorem lkX4_switches_0 : (.fieldLink RX4 10 "Switchlog" "net" "LSwitchlog$Net;" : Cond) ∈ wsX4_switches := by decide +kernel
abbrev rmX4_switches : Room := { frames := 1, cells := 0, slots := 0, locals := 20 }
set_option maxHeartbeats 4000000 in
set_option maxRecDepth 100000 in
theorem kX4_switches (l : Launch) (D : va_G) (cI cZ cL : ClassId) (h_x a_now a_don a_wri a_per a_tho a_aft h_net a_ends : Nat) (nc : Int32) (sc : Int32) (br : Int32) (so : Int32) (lo : Int32)  (N : Nat) {r : Int32} (h : fX4_switches N nc sc br so lo  = some r) : Met l yX4_switches wsX4_switches rmX4_switches (PR D cI cZ cL [.ref h_x] [(h_x, .inr (4, [.ref h_net, .ref a_now, .ref a_don, .ref a_wri, .ref a_per, .ref a_tho, .ref a_aft])), (h_net, .inr (1, [.ref a_ends, .int nc, .int sc, .int br, .int so, .int lo]))]) (vp_Si (fun z => z = r)) 0 0 (fun _ => False) := by
  refine Met.ofW (cc := cX4_switches) (maxL := 1) (ret := (some .int)) (by decide) rfl ?_
  intro p e s m args below meth c s₁ B hml hv
  obtain ⟨rfl, hP, hKK⟩ := hv
  have hK := hKK.1
  have hx := B.exec
  have hb := B.bytes
  have hr := B.returns
  have hts := atoms_spec (ws := wsX4_switches) B.pre
  have hown : s.vm.findClass RX4 = some m.cls := findClass_of_methodNamed B.named
  have hlocks := B.notSynchronized
  have hl := lv_entry ([.ref h_x]) (n := 1) (Nat.le_of_ble_eq_true rfl)
  rw [lg_entry_eq]
  generalize (lg_sl ([.ref h_x]) ++ List.replicate (1 - (lg_sl ([.ref h_x])).length) Slot.unset).toArray = ls at hl ⊢
  have hl : lv_has ls 1 [(0, .ref h_x)] := hl
  obtain ⟨QQ, hQQ⟩ : ∃ Z, Z = MQ below (vp_Si (fun z => z = r)) ([.ref h_x] : List Value).toArray s 0 0 (fun _ => False) := ⟨_, rfl⟩
  rw [← hQQ]
  unfold fX4_switches at h
  refine lv_aload_n hx hb dX4_switches_0 rfl (lv_at hl 0 rfl) ?_
  refine va_get (D := D) (ci := 4) (v := .ref h_net) (C := RX4) (T := TX4) (N := 7) hx hb hts inX4_switches_X4 hown hK hP 0 rfl rfl 0 (by decide) (hts _ lkX4_switches_0) (fun _ h9 => h9) rfl dX4_switches_1 ?_
  obtain ⟨v1, hq2, h⟩ := bd1_e h
  refine zz_cV (As := []) ⟨hx, hb, hml, hown, hts⟩ (kX1_switchCount l D cI cZ cL h_net a_ends nc sc br so lo N hq2) (cwV 0 hts gX4_switches_X1_switchCount rfl rfl rfl (by decide +kernel) ⟨Nat.le_of_ble_eq_true rfl, Nat.le_of_ble_eq_true rfl⟩) (hP.sub (ws' := [(h_net, .inr (1, [.ref a_ends, .int nc, .int sc, .int br, .int so, .int lo]))]) [1] rfl) hKK (va_recv hK hP (ci := 1) (q0 := 1) rfl rfl) rfl hl.1 rfl (Nat.le_of_ble_eq_true rfl) dX4_switches_4 ⟨Nat.le_of_ble_eq_true rfl, Nat.le_of_ble_eq_true rfl⟩ ?_
  rw [hQQ]
  exact W.iret (v := v1) hx hb hr (fun t ht hW => ⟨_, rfl, Option.some.inj h, ht⟩) (fun q hq => absurd hq List.not_mem_nil) dX4_switches_7

def fX4_log (N : Nat) (ds : Int32) : Option ((Int32)) :=
  bd1 (fX0_size N ds) (fun v1 => some v1)
set_option maxRecDepth 100000 in
theorem inX4_log_X4 : ∀ w ∈ wsX40, w ∈ wsX4_log := by decide +kernel
set_option maxRecDepth 100000 in
theorem lkX4_log_0 : (.fieldLink RX4 28 "Switchlog" "done" "LSwitchlog$ActRow;" : Cond) ∈ wsX4_log := by decide +kernel
abbrev rmX4_log : Room := { frames := 1, cells := 0, slots := 0, locals := 20 }
set_option maxHeartbeats 4000000 in
set_option maxRecDepth 100000 in
theorem kX4_log (l : Launch) (D : va_G) (cI cZ cL : ClassId) (h_x a_net a_now a_wri a_per a_tho a_aft h_don a_dac : Nat) (ds : Int32)  (N : Nat) {r : Int32} (h : fX4_log N ds  = some r) : Met l yX4_log wsX4_log rmX4_log (PR D cI cZ cL [.ref h_x] [(h_x, .inr (4, [.ref a_net, .ref a_now, .ref h_don, .ref a_wri, .ref a_per, .ref a_tho, .ref a_aft])), (h_don, .inr (0, [.ref a_dac, .int ds]))]) (vp_Si (fun z => z = r)) 0 0 (fun _ => False) := by
  refine Met.ofW (cc := cX4_log) (maxL := 1) (ret := (some .int)) (by decide) rfl ?_
  intro p e s m args below meth c s₁ B hml hv
  obtain ⟨rfl, hP, hKK⟩ := hv
  have hK := hKK.1
  have hx := B.exec
  have hb := B.bytes
  have hr := B.returns
  have hts := atoms_spec (ws := wsX4_log) B.pre
  have hown : s.vm.findClass RX4 = some m.cls := findClass_of_methodNamed B.named
  have hlocks := B.notSynchronized
  have hl := lv_entry ([.ref h_x]) (n := 1) (Nat.le_of_ble_eq_true rfl)
  rw [lg_entry_eq]
  generalize (lg_sl ([.ref h_x]) ++ List.replicate (1 - (lg_sl ([.ref h_x])).length) Slot.unset).toArray = ls at hl ⊢
  have hl : lv_has ls 1 [(0, .ref h_x)] := hl
  obtain ⟨QQ, hQQ⟩ : ∃ Z, Z = MQ below (vp_Si (fun z => z = r)) ([.ref h_x] : List Value).toArray s 0 0 (fun _ => False) := ⟨_, rfl⟩
  rw [← hQQ]
  unfold fX4_log at h
  refine lv_aload_n hx hb dX4_log_0 rfl (lv_at hl 0 rfl) ?_
  refine va_get (D := D) (ci := 4) (v := .ref h_don) (C := RX4) (T := TX4) (N := 7) hx hb hts inX4_log_X4 hown hK hP 0 rfl rfl 2 (by decide) (hts _ lkX4_log_0) (fun _ h9 => h9) rfl dX4_log_1 ?_
  obtain ⟨v1, hq2, h⟩ := bd1_e h
  refine zz_cV (As := []) ⟨hx, hb, hml, hown, hts⟩ (kX0_size l D cI cZ cL h_don a_dac ds N hq2) (cwV 0 hts gX4_log_X0_size rfl rfl rfl (by decide +kernel) ⟨Nat.le_of_ble_eq_true rfl, Nat.le_of_ble_eq_true rfl⟩) (hP.sub (ws' := [(h_don, .inr (0, [.ref a_dac, .int ds]))]) [1] rfl) hKK (va_recv hK hP (ci := 0) (q0 := 1) rfl rfl) rfl hl.1 rfl (Nat.le_of_ble_eq_true rfl) dX4_log_4 ⟨Nat.le_of_ble_eq_true rfl, Nat.le_of_ble_eq_true rfl⟩ ?_
  rw [hQQ]
  exact W.iret (v := v1) hx hb hr (fun t ht hW => ⟨_, rfl, Option.some.inj h, ht⟩) (fun q hq => absurd hq List.not_mem_nil) dX4_log_7

def fX4_held (N : Nat) (pg : Int32) (hol : Nat → Int32) : Option ((Int32)) :=
  bd1 (fX2_heldNodes N pg hol) (fun v1 => some v1)
set_option maxRecDepth 100000 in
theorem inX4_held_X4 : ∀ w ∈ wsX40, w ∈ wsX4_held := by decide +kernel
set_option maxRecDepth 100000 in
theorem lkX4_held_0 : (.fieldLink RX4 38 "Switchlog" "permits" "LSwitchlog$Permits;" : Cond) ∈ wsX4_held := by decide +kernel
abbrev rmX4_held : Room := { frames := 1, cells := 0, slots := 0, locals := 22 }
set_option maxHeartbeats 4000000 in
set_option maxRecDepth 100000 in
theorem kX4_held (l : Launch) (D : va_G) (cI cZ cL : ClassId) (h_x a_net a_now a_don a_wri a_tho a_aft h_per h_hol : Nat) (pg : Int32) (hol : Nat → Int32)  (N : Nat) {r : Int32} (h : fX4_held N pg hol  = some r) : Met l yX4_held wsX4_held rmX4_held (PR D cI cZ cL [.ref h_x] [(h_x, .inr (4, [.ref a_net, .ref a_now, .ref a_don, .ref a_wri, .ref h_per, .ref a_tho, .ref a_aft])), (h_per, .inr (2, [.ref h_hol, .int pg])), (h_hol, .inl (cI, 10, .inl hol))]) (vp_Si (fun z => z = r)) 0 0 (fun _ => False) := by
  refine Met.ofW (cc := cX4_held) (maxL := 1) (ret := (some .int)) (by decide) rfl ?_
  intro p e s m args below meth c s₁ B hml hv
  obtain ⟨rfl, hP, hKK⟩ := hv
  have hK := hKK.1
  have hx := B.exec
  have hb := B.bytes
  have hr := B.returns
  have hts := atoms_spec (ws := wsX4_held) B.pre
  have hown : s.vm.findClass RX4 = some m.cls := findClass_of_methodNamed B.named
  have hlocks := B.notSynchronized
  have hl := lv_entry ([.ref h_x]) (n := 1) (Nat.le_of_ble_eq_true rfl)
  rw [lg_entry_eq]
  generalize (lg_sl ([.ref h_x]) ++ List.replicate (1 - (lg_sl ([.ref h_x])).length) Slot.unset).toArray = ls at hl ⊢
  have hl : lv_has ls 1 [(0, .ref h_x)] := hl
  obtain ⟨QQ, hQQ⟩ : ∃ Z, Z = MQ below (vp_Si (fun z => z = r)) ([.ref h_x] : List Value).toArray s 0 0 (fun _ => False) := ⟨_, rfl⟩
  rw [← hQQ]
  unfold fX4_held at h
  refine lv_aload_n hx hb dX4_held_0 rfl (lv_at hl 0 rfl) ?_
  refine va_get (D := D) (ci := 4) (v := .ref h_per) (C := RX4) (T := TX4) (N := 7) hx hb hts inX4_held_X4 hown hK hP 0 rfl rfl 4 (by decide) (hts _ lkX4_held_0) (fun _ h9 => h9) rfl dX4_held_1 ?_
  obtain ⟨v1, hq2, h⟩ := bd1_e h
  refine zz_cV (As := []) ⟨hx, hb, hml, hown, hts⟩ (kX2_heldNodes l D cI cZ cL h_per h_hol pg hol N hq2) (cwV 0 hts gX4_held_X2_heldNodes rfl rfl rfl (by decide +kernel) ⟨Nat.le_of_ble_eq_true rfl, Nat.le_of_ble_eq_true rfl⟩) (hP.sub (ws' := [(h_per, .inr (2, [.ref h_hol, .int pg])), (h_hol, .inl (cI, 10, .inl hol))]) [1, 2] rfl) hKK (va_recv hK hP (ci := 2) (q0 := 1) rfl rfl) rfl hl.1 rfl (Nat.le_of_ble_eq_true rfl) dX4_held_4 ⟨Nat.le_of_ble_eq_true rfl, Nat.le_of_ble_eq_true rfl⟩ ?_
  rw [hQQ]
  exact W.iret (v := v1) hx hb hr (fun t ht hW => ⟨_, rfl, Option.some.inj h, ht⟩) (fun q hq => absurd hq List.not_mem_nil) dX4_held_7

def fX4_live (N : Nat) (nc : Int32) (sc : Int32) (br : Int32) (so : Int32) (lo : Int32) (ends : Nat → Int32) (cl : Int32) (ea : Int32) (on : Int32) : Option ((Int32)) :=
  bd1 (fX1_liveNodes N nc sc br so lo ends cl ea on) (fun v1 => some v1)
set_option maxRecDepth 100000 in
theorem inX4_live_X4 : ∀ w ∈ wsX40, w ∈ wsX4_live := by decide +kernel
set_option maxRecDepth 100000 in
theorem lkX4_live_0 : (.fieldLink RX4 10 "Switchlog" "net" "LSwitchlog$Net;" : Cond) ∈ wsX4_live := by decide +kernel
set_option maxRecDepth 100000 in
theorem lkX4_live_1 : (.fieldLink RX4 19 "Switchlog" "now" "LSwitchlog$State;" : Cond) ∈ wsX4_live := by decide +kernel
abbrev rmX4_live : Room := { frames := 2, cells := 0, slots := 0, locals := 48 }
set_option maxHeartbeats 4000000 in
set_option maxRecDepth 100000 in
theorem kX4_live (l : Launch) (D : va_G) (cI cZ cL : ClassId) (h_x a_don a_wri a_per a_tho a_aft h_net h_ends h_now : Nat) (nc : Int32) (sc : Int32) (br : Int32) (so : Int32) (lo : Int32) (ends : Nat → Int32) (cl : Int32) (ea : Int32) (on : Int32)  (N : Nat) {r : Int32} (h : fX4_live N nc sc br so lo ends cl ea on  = some r) : Met l yX4_live wsX4_live rmX4_live (PR D cI cZ cL [.ref h_x] [(h_x, .inr (4, [.ref h_net, .ref h_now, .ref a_don, .ref a_wri, .ref a_per, .ref a_tho, .ref a_aft])), (h_net, .inr (1, [.ref h_ends, .int nc, .int sc, .int br, .int so, .int lo])), (h_ends, .inl (cI, 24, .inl ends)), (h_now, .inr (3, [.int cl, .int ea, .int on]))]) (vp_Si (fun z => z = r)) 0 0 (fun _ => False) := by
  refine Met.ofW (cc := cX4_live) (maxL := 1) (ret := (some .int)) (by decide) rfl ?_
  intro p e s m args below meth c s₁ B hml hv
  obtain ⟨rfl, hP, hKK⟩ := hv
  have hK := hKK.1
  have hx := B.exec
  have hb := B.bytes
  have hr := B.returns
  have hts := atoms_spec (ws := wsX4_live) B.pre
  have hown : s.vm.findClass RX4 = some m.cls := findClass_of_methodNamed B.named
  have hlocks := B.notSynchronized
  have hl := lv_entry ([.ref h_x]) (n := 1) (Nat.le_of_ble_eq_true rfl)
  rw [lg_entry_eq]
  generalize (lg_sl ([.ref h_x]) ++ List.replicate (1 - (lg_sl ([.ref h_x])).length) Slot.unset).toArray = ls at hl ⊢
  have hl : lv_has ls 1 [(0, .ref h_x)] := hl
  obtain ⟨QQ, hQQ⟩ : ∃ Z, Z = MQ below (vp_Si (fun z => z = r)) ([.ref h_x] : List Value).toArray s 0 0 (fun _ => False) := ⟨_, rfl⟩
  rw [← hQQ]
  unfold fX4_live at h
  refine lv_aload_n hx hb dX4_live_0 rfl (lv_at hl 0 rfl) ?_
  refine va_get (D := D) (ci := 4) (v := .ref h_net) (C := RX4) (T := TX4) (N := 7) hx hb hts inX4_live_X4 hown hK hP 0 rfl rfl 0 (by decide) (hts _ lkX4_live_0) (fun _ h9 => h9) rfl dX4_live_1 ?_
  refine lv_aload_n hx hb dX4_live_4 rfl (lv_at hl 0 rfl) ?_
  refine va_get (D := D) (ci := 4) (v := .ref h_now) (C := RX4) (T := TX4) (N := 7) hx hb hts inX4_live_X4 hown hK hP 0 rfl rfl 1 (by decide) (hts _ lkX4_live_1) (fun _ h9 => h9) rfl dX4_live_5 ?_
  obtain ⟨v1, hq2, h⟩ := bd1_e h
  refine zz_cV (As := [.ref h_now]) ⟨hx, hb, hml, hown, hts⟩ (kX1_liveNodes l D cI cZ cL h_net h_ends h_now nc sc br so lo ends cl ea on N hq2) (cwV 1 hts gX4_live_X1_liveNodes rfl rfl rfl (by decide +kernel) ⟨Nat.le_of_ble_eq_true rfl, Nat.le_of_ble_eq_true rfl⟩) (hP.sub (ws' := [(h_net, .inr (1, [.ref h_ends, .int nc, .int sc, .int br, .int so, .int lo])), (h_ends, .inl (cI, 24, .inl ends)), (h_now, .inr (3, [.int cl, .int ea, .int on]))]) [1, 2, 3] rfl) hKK (va_recv hK hP (ci := 1) (q0 := 1) rfl rfl) rfl hl.1 rfl (Nat.le_of_ble_eq_true rfl) dX4_live_8 ⟨Nat.le_of_ble_eq_true rfl, Nat.le_of_ble_eq_true rfl⟩ ?_
  rw [hQQ]
  exact W.iret (v := v1) hx hb hr (fun t ht hW => ⟨_, rfl, Option.some.inj h, ht⟩) (fun q hq => absurd hq List.not_mem_nil) dX4_live_11

def fX4_loaded (N : Nat) (nc : Int32) (sc : Int32) (br : Int32) (so : Int32) (lo : Int32) (ends : Nat → Int32) (cl : Int32) (ea : Int32) (on : Int32) : Option ((Int32)) :=
  bd1 (fX1_loadedNodes N nc sc br so lo ends cl ea on) (fun v1 => some v1)
set_option maxRecDepth 100000 in
theorem inX4_loaded_X4 : ∀ w ∈ wsX40, w ∈ wsX4_loaded := by decide +kernel
set_option maxRecDepth 100000 in
theorem lkX4_loaded_0 : (.fieldLink RX4 10 "Switchlog" "net" "LSwitchlog$Net;" : Cond) ∈ wsX4_loaded := by decide +kernel
set_option maxRecDepth 100000 in
theorem lkX4_loaded_1 : (.fieldLink RX4 19 "Switchlog" "now" "LSwitchlog$State;" : Cond) ∈ wsX4_loaded := by decide +kernel
abbrev rmX4_loaded : Room := { frames := 2, cells := 0, slots := 0, locals := 48 }
set_option maxHeartbeats 4000000 in
set_option maxRecDepth 100000 in
theorem kX4_loaded (l : Launch) (D : va_G) (cI cZ cL : ClassId) (h_x a_don a_wri a_per a_tho a_aft h_net h_ends h_now : Nat) (nc : Int32) (sc : Int32) (br : Int32) (so : Int32) (lo : Int32) (ends : Nat → Int32) (cl : Int32) (ea : Int32) (on : Int32)  (N : Nat) {r : Int32} (h : fX4_loaded N nc sc br so lo ends cl ea on  = some r) : Met l yX4_loaded wsX4_loaded rmX4_loaded (PR D cI cZ cL [.ref h_x] [(h_x, .inr (4, [.ref h_net, .ref h_now, .ref a_don, .ref a_wri, .ref a_per, .ref a_tho, .ref a_aft])), (h_net, .inr (1, [.ref h_ends, .int nc, .int sc, .int br, .int so, .int lo])), (h_ends, .inl (cI, 24, .inl ends)), (h_now, .inr (3, [.int cl, .int ea, .int on]))]) (vp_Si (fun z => z = r)) 0 0 (fun _ => False) := by
  refine Met.ofW (cc := cX4_loaded) (maxL := 1) (ret := (some .int)) (by decide) rfl ?_
  intro p e s m args below meth c s₁ B hml hv
  obtain ⟨rfl, hP, hKK⟩ := hv
  have hK := hKK.1
  have hx := B.exec
  have hb := B.bytes
  have hr := B.returns
  have hts := atoms_spec (ws := wsX4_loaded) B.pre
  have hown : s.vm.findClass RX4 = some m.cls := findClass_of_methodNamed B.named
  have hlocks := B.notSynchronized
  have hl := lv_entry ([.ref h_x]) (n := 1) (Nat.le_of_ble_eq_true rfl)
  rw [lg_entry_eq]
  generalize (lg_sl ([.ref h_x]) ++ List.replicate (1 - (lg_sl ([.ref h_x])).length) Slot.unset).toArray = ls at hl ⊢
  have hl : lv_has ls 1 [(0, .ref h_x)] := hl
  obtain ⟨QQ, hQQ⟩ : ∃ Z, Z = MQ below (vp_Si (fun z => z = r)) ([.ref h_x] : List Value).toArray s 0 0 (fun _ => False) := ⟨_, rfl⟩
  rw [← hQQ]
  unfold fX4_loaded at h
  refine lv_aload_n hx hb dX4_loaded_0 rfl (lv_at hl 0 rfl) ?_
  refine va_get (D := D) (ci := 4) (v := .ref h_net) (C := RX4) (T := TX4) (N := 7) hx hb hts inX4_loaded_X4 hown hK hP 0 rfl rfl 0 (by decide) (hts _ lkX4_loaded_0) (fun _ h9 => h9) rfl dX4_loaded_1 ?_
  refine lv_aload_n hx hb dX4_loaded_4 rfl (lv_at hl 0 rfl) ?_
  refine va_get (D := D) (ci := 4) (v := .ref h_now) (C := RX4) (T := TX4) (N := 7) hx hb hts inX4_loaded_X4 hown hK hP 0 rfl rfl 1 (by decide) (hts _ lkX4_loaded_1) (fun _ h9 => h9) rfl dX4_loaded_5 ?_
  obtain ⟨v1, hq2, h⟩ := bd1_e h
  refine zz_cV (As := [.ref h_now]) ⟨hx, hb, hml, hown, hts⟩ (kX1_loadedNodes l D cI cZ cL h_net h_ends h_now nc sc br so lo ends cl ea on N hq2) (cwV 1 hts gX4_loaded_X1_loadedNodes rfl rfl rfl (by decide +kernel) ⟨Nat.le_of_ble_eq_true rfl, Nat.le_of_ble_eq_true rfl⟩) (hP.sub (ws' := [(h_net, .inr (1, [.ref h_ends, .int nc, .int sc, .int br, .int so, .int lo])), (h_ends, .inl (cI, 24, .inl ends)), (h_now, .inr (3, [.int cl, .int ea, .int on]))]) [1, 2, 3] rfl) hKK (va_recv hK hP (ci := 1) (q0 := 1) rfl rfl) rfl hl.1 rfl (Nat.le_of_ble_eq_true rfl) dX4_loaded_8 ⟨Nat.le_of_ble_eq_true rfl, Nat.le_of_ble_eq_true rfl⟩ ?_
  rw [hQQ]
  exact W.iret (v := v1) hx hb hr (fun t ht hW => ⟨_, rfl, Option.some.inj h, ht⟩) (fun q hq => absurd hq List.not_mem_nil) dX4_loaded_11

def fX4_earthed (N : Nat) (nc : Int32) (sc : Int32) (br : Int32) (so : Int32) (lo : Int32) (ends : Nat → Int32) (cl : Int32) (ea : Int32) (on : Int32) : Option ((Int32)) :=
  bd1 (fX1_earthedNodes N nc sc br so lo ends cl ea on) (fun v1 => some v1)
set_option maxRecDepth 100000 in
theorem inX4_earthed_X4 : ∀ w ∈ wsX40, w ∈ wsX4_earthed := by decide +kernel
set_option maxRecDepth 100000 in
theorem lkX4_earthed_0 : (.fieldLink RX4 10 "Switchlog" "net" "LSwitchlog$Net;" : Cond) ∈ wsX4_earthed := by decide +kernel
set_option maxRecDepth 100000 in
theorem lkX4_earthed_1 : (.fieldLink RX4 19 "Switchlog" "now" "LSwitchlog$State;" : Cond) ∈ wsX4_earthed := by decide +kernel
abbrev rmX4_earthed : Room := { frames := 2, cells := 0, slots := 0, locals := 48 }
set_option maxHeartbeats 4000000 in
set_option maxRecDepth 100000 in
theorem kX4_earthed (l : Launch) (D : va_G) (cI cZ cL : ClassId) (h_x a_don a_wri a_per a_tho a_aft h_net h_ends h_now : Nat) (nc : Int32) (sc : Int32) (br : Int32) (so : Int32) (lo : Int32) (ends : Nat → Int32) (cl : Int32) (ea : Int32) (on : Int32)  (N : Nat) {r : Int32} (h : fX4_earthed N nc sc br so lo ends cl ea on  = some r) : Met l yX4_earthed wsX4_earthed rmX4_earthed (PR D cI cZ cL [.ref h_x] [(h_x, .inr (4, [.ref h_net, .ref h_now, .ref a_don, .ref a_wri, .ref a_per, .ref a_tho, .ref a_aft])), (h_net, .inr (1, [.ref h_ends, .int nc, .int sc, .int br, .int so, .int lo])), (h_ends, .inl (cI, 24, .inl ends)), (h_now, .inr (3, [.int cl, .int ea, .int on]))]) (vp_Si (fun z => z = r)) 0 0 (fun _ => False) := by
  refine Met.ofW (cc := cX4_earthed) (maxL := 1) (ret := (some .int)) (by decide) rfl ?_
  intro p e s m args below meth c s₁ B hml hv
  obtain ⟨rfl, hP, hKK⟩ := hv
  have hK := hKK.1
  have hx := B.exec
  have hb := B.bytes
  have hr := B.returns
  have hts := atoms_spec (ws := wsX4_earthed) B.pre
  have hown : s.vm.findClass RX4 = some m.cls := findClass_of_methodNamed B.named
  have hlocks := B.notSynchronized
  have hl := lv_entry ([.ref h_x]) (n := 1) (Nat.le_of_ble_eq_true rfl)
  rw [lg_entry_eq]
  generalize (lg_sl ([.ref h_x]) ++ List.replicate (1 - (lg_sl ([.ref h_x])).length) Slot.unset).toArray = ls at hl ⊢
  have hl : lv_has ls 1 [(0, .ref h_x)] := hl
  obtain ⟨QQ, hQQ⟩ : ∃ Z, Z = MQ below (vp_Si (fun z => z = r)) ([.ref h_x] : List Value).toArray s 0 0 (fun _ => False) := ⟨_, rfl⟩
  rw [← hQQ]
  unfold fX4_earthed at h
  refine lv_aload_n hx hb dX4_earthed_0 rfl (lv_at hl 0 rfl) ?_
  refine va_get (D := D) (ci := 4) (v := .ref h_net) (C := RX4) (T := TX4) (N := 7) hx hb hts inX4_earthed_X4 hown hK hP 0 rfl rfl 0 (by decide) (hts _ lkX4_earthed_0) (fun _ h9 => h9) rfl dX4_earthed_1 ?_
  refine lv_aload_n hx hb dX4_earthed_4 rfl (lv_at hl 0 rfl) ?_
  refine va_get (D := D) (ci := 4) (v := .ref h_now) (C := RX4) (T := TX4) (N := 7) hx hb hts inX4_earthed_X4 hown hK hP 0 rfl rfl 1 (by decide) (hts _ lkX4_earthed_1) (fun _ h9 => h9) rfl dX4_earthed_5 ?_
  obtain ⟨v1, hq2, h⟩ := bd1_e h
  refine zz_cV (As := [.ref h_now]) ⟨hx, hb, hml, hown, hts⟩ (kX1_earthedNodes l D cI cZ cL h_net h_ends h_now nc sc br so lo ends cl ea on N hq2) (cwV 1 hts gX4_earthed_X1_earthedNodes rfl rfl rfl (by decide +kernel) ⟨Nat.le_of_ble_eq_true rfl, Nat.le_of_ble_eq_true rfl⟩) (hP.sub (ws' := [(h_net, .inr (1, [.ref h_ends, .int nc, .int sc, .int br, .int so, .int lo])), (h_ends, .inl (cI, 24, .inl ends)), (h_now, .inr (3, [.int cl, .int ea, .int on]))]) [1, 2, 3] rfl) hKK (va_recv hK hP (ci := 1) (q0 := 1) rfl rfl) rfl hl.1 rfl (Nat.le_of_ble_eq_true rfl) dX4_earthed_8 ⟨Nat.le_of_ble_eq_true rfl, Nat.le_of_ble_eq_true rfl⟩ ?_
  rw [hQQ]
  exact W.iret (v := v1) hx hb hr (fun t ht hW => ⟨_, rfl, Option.some.inj h, ht⟩) (fun q hq => absurd hq List.not_mem_nil) dX4_earthed_11

def fX4_parts (N : Nat) (nc : Int32) (sc : Int32) (br : Int32) (so : Int32) (lo : Int32) (ends : Nat → Int32) (cl : Int32) (ea : Int32) (on : Int32) : Option ((Int32)) :=
  bd1 (fX1_countParts N nc sc br so lo ends cl ea on) (fun v1 => some v1)
set_option maxRecDepth 100000 in
theorem inX4_parts_X4 : ∀ w ∈ wsX40, w ∈ wsX4_parts := by decide +kernel
set_option maxRecDepth 100000 in
theorem lkX4_parts_0 : (.fieldLink RX4 10 "Switchlog" "net" "LSwitchlog$Net;" : Cond) ∈ wsX4_parts := by decide +kernel
set_option maxRecDepth 100000 in
theorem lkX4_parts_1 : (.fieldLink RX4 19 "Switchlog" "now" "LSwitchlog$State;" : Cond) ∈ wsX4_parts := by decide +kernel
abbrev rmX4_parts : Room := { frames := 2, cells := 0, slots := 0, locals := 51 }
set_option maxHeartbeats 4000000 in
set_option maxRecDepth 100000 in
theorem kX4_parts (l : Launch) (D : va_G) (cI cZ cL : ClassId) (h_x a_don a_wri a_per a_tho a_aft h_net h_ends h_now : Nat) (nc : Int32) (sc : Int32) (br : Int32) (so : Int32) (lo : Int32) (ends : Nat → Int32) (cl : Int32) (ea : Int32) (on : Int32)  (N : Nat) {r : Int32} (h : fX4_parts N nc sc br so lo ends cl ea on  = some r) : Met l yX4_parts wsX4_parts rmX4_parts (PR D cI cZ cL [.ref h_x] [(h_x, .inr (4, [.ref h_net, .ref h_now, .ref a_don, .ref a_wri, .ref a_per, .ref a_tho, .ref a_aft])), (h_net, .inr (1, [.ref h_ends, .int nc, .int sc, .int br, .int so, .int lo])), (h_ends, .inl (cI, 24, .inl ends)), (h_now, .inr (3, [.int cl, .int ea, .int on]))]) (vp_Si (fun z => z = r)) 0 0 (fun _ => False) := by
  refine Met.ofW (cc := cX4_parts) (maxL := 1) (ret := (some .int)) (by decide) rfl ?_
  intro p e s m args below meth c s₁ B hml hv
  obtain ⟨rfl, hP, hKK⟩ := hv
  have hK := hKK.1
  have hx := B.exec
  have hb := B.bytes
  have hr := B.returns
  have hts := atoms_spec (ws := wsX4_parts) B.pre
  have hown : s.vm.findClass RX4 = some m.cls := findClass_of_methodNamed B.named
  have hlocks := B.notSynchronized
  have hl := lv_entry ([.ref h_x]) (n := 1) (Nat.le_of_ble_eq_true rfl)
  rw [lg_entry_eq]
  generalize (lg_sl ([.ref h_x]) ++ List.replicate (1 - (lg_sl ([.ref h_x])).length) Slot.unset).toArray = ls at hl ⊢
  have hl : lv_has ls 1 [(0, .ref h_x)] := hl
  obtain ⟨QQ, hQQ⟩ : ∃ Z, Z = MQ below (vp_Si (fun z => z = r)) ([.ref h_x] : List Value).toArray s 0 0 (fun _ => False) := ⟨_, rfl⟩
  rw [← hQQ]
  unfold fX4_parts at h
  refine lv_aload_n hx hb dX4_parts_0 rfl (lv_at hl 0 rfl) ?_
  refine va_get (D := D) (ci := 4) (v := .ref h_net) (C := RX4) (T := TX4) (N := 7) hx hb hts inX4_parts_X4 hown hK hP 0 rfl rfl 0 (by decide) (hts _ lkX4_parts_0) (fun _ h9 => h9) rfl dX4_parts_1 ?_
  refine lv_aload_n hx hb dX4_parts_4 rfl (lv_at hl 0 rfl) ?_
  refine va_get (D := D) (ci := 4) (v := .ref h_now) (C := RX4) (T := TX4) (N := 7) hx hb hts inX4_parts_X4 hown hK hP 0 rfl rfl 1 (by decide) (hts _ lkX4_parts_1) (fun _ h9 => h9) rfl dX4_parts_5 ?_
  obtain ⟨v1, hq2, h⟩ := bd1_e h
  refine zz_cV (As := [.ref h_now]) ⟨hx, hb, hml, hown, hts⟩ (kX1_countParts l D cI cZ cL h_net h_ends h_now nc sc br so lo ends cl ea on N hq2) (cwV 1 hts gX4_parts_X1_countParts rfl rfl rfl (by decide +kernel) ⟨Nat.le_of_ble_eq_true rfl, Nat.le_of_ble_eq_true rfl⟩) (hP.sub (ws' := [(h_net, .inr (1, [.ref h_ends, .int nc, .int sc, .int br, .int so, .int lo])), (h_ends, .inl (cI, 24, .inl ends)), (h_now, .inr (3, [.int cl, .int ea, .int on]))]) [1, 2, 3] rfl) hKK (va_recv hK hP (ci := 1) (q0 := 1) rfl rfl) rfl hl.1 rfl (Nat.le_of_ble_eq_true rfl) dX4_parts_8 ⟨Nat.le_of_ble_eq_true rfl, Nat.le_of_ble_eq_true rfl⟩ ?_
  rw [hQQ]
  exact W.iret (v := v1) hx hb hr (fun t ht hW => ⟨_, rfl, Option.some.inj h, ht⟩) (fun q hq => absurd hq List.not_mem_nil) dX4_parts_11

def fX4_isAlreadySo (N : Nat) (nc : Int32) (sc : Int32) (br : Int32) (so : Int32) (lo : Int32) (bc : Int32) (be : Int32) (bo : Int32) (p1 : Int32) (p2 : Int32) : Option ((Int32)) :=
  jn1 (fun (y1 : Int32) => (if y1 = 0 then bd1 (fX3_isOn N bc be bo p1 p2) (fun v5 => bd1 (fX4_turnsOn N  p1) (fun v7 => (if v5 = v7 then some 1 else some 0))) else some 1)) (fun g21_2 => (if p1 = 4 then bd1 (fX1_hasSource N nc sc br so lo p2) (fun v11 => (if v11 = 0 then g21_2 1 else g21_2 0)) else g21_2 0))
set_option maxRecDepth 100000 in
theorem inX4_isAlreadySo_X4 : ∀ w ∈ wsX40, w ∈ wsX4_isAlreadySo := by decide +kernel
set_option maxRecDepth 100000 in
theorem lkX4_isAlreadySo_0 : (.fieldLink RX4 10 "Switchlog" "net" "LSwitchlog$Net;" : Cond) ∈ wsX4_isAlreadySo := by decide +kernel
abbrev rmX4_isAlreadySo : Room := { frames := 1, cells := 0, slots := 0, locals := 22 }
set_option maxHeartbeats 4000000 in
set_option maxRecDepth 100000 in
theorem kX4_isAlreadySo (l : Launch) (D : va_G) (cI cZ cL : ClassId) (h_x a_now a_don a_wri a_per a_tho a_aft h_net a_ends h_bef : Nat) (nc : Int32) (sc : Int32) (br : Int32) (so : Int32) (lo : Int32) (bc : Int32) (be : Int32) (bo : Int32) (p1 : Int32) (p2 : Int32) (N : Nat) {r : Int32} (h : fX4_isAlreadySo N nc sc br so lo bc be bo p1 p2 = some r) : Met l yX4_isAlreadySo wsX4_isAlreadySo rmX4_isAlreadySo (PR D cI cZ cL [.ref h_x, .ref h_bef, .int p1, .int p2] [(h_x, .inr (4, [.ref h_net, .ref a_now, .ref a_don, .ref a_wri, .ref a_per, .ref a_tho, .ref a_aft])), (h_net, .inr (1, [.ref a_ends, .int nc, .int sc, .int br, .int so, .int lo])), (h_bef, .inr (3, [.int bc, .int be, .int bo]))]) (vp_Si (fun z => z = r)) 0 0 (fun _ => False) := by
  refine Met.ofW (cc := cX4_isAlreadySo) (maxL := 5) (ret := (some .boolean)) (by decide) rfl ?_
  intro p e s m args below meth c s₁ B hml hv
  obtain ⟨rfl, hP, hKK⟩ := hv
  have hK := hKK.1
  have hx := B.exec
  have hb := B.bytes
  have hr := B.returns
  have hts := atoms_spec (ws := wsX4_isAlreadySo) B.pre
  have hown : s.vm.findClass RX4 = some m.cls := findClass_of_methodNamed B.named
  have hlocks := B.notSynchronized
  have hl := lv_entry ([.ref h_x, .ref h_bef, .int p1, .int p2]) (n := 5) (Nat.le_of_ble_eq_true rfl)
  rw [lg_entry_eq]
  generalize (lg_sl ([.ref h_x, .ref h_bef, .int p1, .int p2]) ++ List.replicate (5 - (lg_sl ([.ref h_x, .ref h_bef, .int p1, .int p2])).length) Slot.unset).toArray = ls at hl ⊢
  have hl : lv_has ls 5 [(0, .ref h_x), (1, .ref h_bef), (2, .int p1), (3, .int p2)] := hl
  obtain ⟨QQ, hQQ⟩ : ∃ Z, Z = MQ below (vp_Si (fun z => z = r)) ([.ref h_x, .ref h_bef, .int p1, .int p2] : List Value).toArray s 0 0 (fun _ => False) := ⟨_, rfl⟩
  rw [← hQQ]
  unfold fX4_isAlreadySo at h
  refine lv_iload_n hx hb dX4_isAlreadySo_0 rfl (lv_at hl 2 rfl) ?_
  refine lv_iconst (v := 4) hx hb dX4_isAlreadySo_1 (by decide) ?_
  refine jn1_e (fun (y1 : Int32) => ∀ ls : Array Slot, lv_has ls 5 [(0, .ref h_x), (1, .ref h_bef), (2, .int p1), (3, .int p2)] → W p l e (headSpec wsX4_isAlreadySo rmX4_isAlreadySo).room s m (([.ref h_x, .ref h_bef, .int p1, .int p2] : List Value).toArray) below meth c s.heap [] 0 0 QQ (F0 m 21 ls [.int y1])) h (fun y1 h ls hl => ?_) (fun g21_2 hg21_3 h => ?_)
  · refine lv_istore (lv' := [(4, .int y1), (0, .ref h_x), (1, .ref h_bef), (2, .int p1), (3, .int p2)]) hx hb dX4_isAlreadySo_21 hl (by decide) rfl (fun ls hl => ?_)
    refine lv_iload hx hb dX4_isAlreadySo_23 (lv_at hl 0 rfl) ?_
    refine lv_if_ne (tgt := 41) hx hb dX4_isAlreadySo_25 (by decide) (fun c4 => ?_) (fun c4 => ?_)
    · have h := it_f h c4
      refine lv_iconst (v := 1) hx hb dX4_isAlreadySo_41 (by decide) ?_
      refine lv_goto (tgt := 46) hx hb dX4_isAlreadySo_42 (by decide) ?_
      rw [hQQ]
      exact W.zret (v := 1) hx hb hr (by decide) (fun t ht hW => ⟨_, rfl, Option.some.inj h, ht⟩) (fun q hq => absurd hq List.not_mem_nil) dX4_isAlreadySo_46
    · have h := it_t h c4
      refine lv_aload_n hx hb dX4_isAlreadySo_28 rfl (lv_at hl 2 rfl) ?_
      refine lv_iload_n hx hb dX4_isAlreadySo_29 rfl (lv_at hl 3 rfl) ?_
      refine lv_iload_n hx hb dX4_isAlreadySo_30 rfl (lv_at hl 4 rfl) ?_
      obtain ⟨v5, hq6, h⟩ := bd1_e h
      refine zz_cV (As := [.int p1, .int p2]) ⟨hx, hb, hml, hown, hts⟩ (kX3_isOn l D cI cZ cL h_bef bc be bo p1 p2 N hq6) (cwV 2 hts gX4_isAlreadySo_X3_isOn rfl rfl rfl (by decide +kernel) ⟨Nat.le_of_ble_eq_true rfl, Nat.le_of_ble_eq_true rfl⟩) (hP.sub (ws' := [(h_bef, .inr (3, [.int bc, .int be, .int bo]))]) [2] rfl) hKK (va_recv hK hP (ci := 3) (q0 := 2) rfl rfl) rfl hl.1 rfl (Nat.le_of_ble_eq_true rfl) dX4_isAlreadySo_31 ⟨Nat.le_of_ble_eq_true rfl, Nat.le_of_ble_eq_true rfl⟩ ?_
      refine lv_iload_n hx hb dX4_isAlreadySo_34 rfl (lv_at hl 3 rfl) ?_
      obtain ⟨v7, hq8, h⟩ := bd1_e h
      refine zz_cS (As := [.int p1]) ⟨hx, hb, hml, hown, hts⟩ (kX4_turnsOn l D cI cZ cL p1 N hq8) (va_cwS 1 hts gX4_isAlreadySo_X4_turnsOn rfl rfl rfl (by decide +kernel) ⟨Nat.le_of_ble_eq_true rfl, Nat.le_of_ble_eq_true rfl⟩) (hP.sub (ws' := []) [] rfl) hKK rfl hl.1 rfl (Nat.le_of_ble_eq_true rfl) dX4_isAlreadySo_35 ⟨Nat.le_of_ble_eq_true rfl, Nat.le_of_ble_eq_true rfl⟩ ?_
      refine lv_icmp_ne (tgt := 45) hx hb dX4_isAlreadySo_38 (by decide) (fun c9 => ?_) (fun c9 => ?_)
      · have h := it_f h c9
        refine lv_iconst (v := 0) hx hb dX4_isAlreadySo_45 (by decide) ?_
        rw [hQQ]
        exact W.zret (v := 0) hx hb hr (by decide) (fun t ht hW => ⟨_, rfl, Option.some.inj h, ht⟩) (fun q hq => absurd hq List.not_mem_nil) dX4_isAlreadySo_46
      · have h := it_t h c9
        refine lv_iconst (v := 1) hx hb dX4_isAlreadySo_41 (by decide) ?_
        refine lv_goto (tgt := 46) hx hb dX4_isAlreadySo_42 (by decide) ?_
        rw [hQQ]
        exact W.zret (v := 1) hx hb hr (by decide) (fun t ht hW => ⟨_, rfl, Option.some.inj h, ht⟩) (fun q hq => absurd hq List.not_mem_nil) dX4_isAlreadySo_46
  · refine lv_icmp_ne (tgt := 20) hx hb dX4_isAlreadySo_2 (by decide) (fun c10 => ?_) (fun c10 => ?_)
    · have h := it_f h c10
      refine lv_iconst (v := 0) hx hb dX4_isAlreadySo_20 (by decide) ?_
      exact hg21_3 0 h ls (lv_sub hl [0, 1, 2, 3] rfl)
    · have h := it_t h c10
      refine lv_aload_n hx hb dX4_isAlreadySo_5 rfl (lv_at hl 0 rfl) ?_
      refine va_get (D := D) (ci := 4) (v := .ref h_net) (C := RX4) (T := TX4) (N := 7) hx hb hts inX4_isAlreadySo_X4 hown hK hP 0 rfl rfl 0 (by decide) (hts _ lkX4_isAlreadySo_0) (fun _ h9 => h9) rfl dX4_isAlreadySo_6 ?_
      refine lv_iload_n hx hb dX4_isAlreadySo_9 rfl (lv_at hl 3 rfl) ?_
      obtain ⟨v11, hq12, h⟩ := bd1_e h
      refine zz_cV (As := [.int p2]) ⟨hx, hb, hml, hown, hts⟩ (kX1_hasSource l D cI cZ cL h_net a_ends nc sc br so lo p2 N hq12) (cwV 1 hts gX4_isAlreadySo_X1_hasSource rfl rfl rfl (by decide +kernel) ⟨Nat.le_of_ble_eq_true rfl, Nat.le_of_ble_eq_true rfl⟩) (hP.sub (ws' := [(h_net, .inr (1, [.ref a_ends, .int nc, .int sc, .int br, .int so, .int lo]))]) [1] rfl) hKK (va_recv hK hP (ci := 1) (q0 := 1) rfl rfl) rfl hl.1 rfl (Nat.le_of_ble_eq_true rfl) dX4_isAlreadySo_10 ⟨Nat.le_of_ble_eq_true rfl, Nat.le_of_ble_eq_true rfl⟩ ?_
      refine lv_if_ne (tgt := 20) hx hb dX4_isAlreadySo_13 (by decide) (fun c13 => ?_) (fun c13 => ?_)
      · have h := it_f h c13
        refine lv_iconst (v := 0) hx hb dX4_isAlreadySo_20 (by decide) ?_
        exact hg21_3 0 h ls (lv_sub hl [0, 1, 2, 3] rfl)
      · have h := it_t h c13
        refine lv_iconst (v := 1) hx hb dX4_isAlreadySo_16 (by decide) ?_
        refine lv_goto (tgt := 21) hx hb dX4_isAlreadySo_17 (by decide) ?_
        exact hg21_3 1 h ls (lv_sub hl [0, 1, 2, 3] rfl)

def fX4_touchedNodes (N : Nat) (nc : Int32) (sc : Int32) (br : Int32) (so : Int32) (lo : Int32) (ends : Nat → Int32) (p0 : Int32) (p1 : Int32) : Option ((Int32)) :=
  bd1 (fX4_isOfSwitch N  p0) (fun v1 => (if v1 = 0 then some ((1 : Int32) <<< (p1 &&& 31)) else bd1 (fX1_endsOf N nc sc br so lo ends p1) (fun v4 => some v4)))
set_option maxRecDepth 100000 in
theorem inX4_touchedNodes_X4 : ∀ w ∈ wsX40, w ∈ wsX4_touchedNodes := by decide +kernel
set_option maxRecDepth 100000 in
theorem lkX4_touchedNodes_0 : (.fieldLink RX4 10 "Switchlog" "net" "LSwitchlog$Net;" : Cond) ∈ wsX4_touchedNodes := by decide +kernel
abbrev rmX4_touchedNodes : Room := { frames := 1, cells := 0, slots := 0, locals := 21 }
set_option maxHeartbeats 4000000 in
set_option maxRecDepth 100000 in
theorem kX4_touchedNodes (l : Launch) (D : va_G) (cI cZ cL : ClassId) (h_x a_now a_don a_wri a_per a_tho a_aft h_net h_ends : Nat) (nc : Int32) (sc : Int32) (br : Int32) (so : Int32) (lo : Int32) (ends : Nat → Int32) (p0 : Int32) (p1 : Int32) (N : Nat) {r : Int32} (h : fX4_touchedNodes N nc sc br so lo ends p0 p1 = some r) : Met l yX4_touchedNodes wsX4_touchedNodes rmX4_touchedNodes (PR D cI cZ cL [.ref h_x, .int p0, .int p1] [(h_x, .inr (4, [.ref h_net, .ref a_now, .ref a_don, .ref a_wri, .ref a_per, .ref a_tho, .ref a_aft])), (h_net, .inr (1, [.ref h_ends, .int nc, .int sc, .int br, .int so, .int lo])), (h_ends, .inl (cI, 24, .inl ends))]) (vp_Si (fun z => z = r)) 0 0 (fun _ => False) := by
  refine Met.ofW (cc := cX4_touchedNodes) (maxL := 3) (ret := (some .int)) (by decide) rfl ?_
  intro p e s m args below meth c s₁ B hml hv
  obtain ⟨rfl, hP, hKK⟩ := hv
  have hK := hKK.1
  have hx := B.exec
  have hb := B.bytes
  have hr := B.returns
  have hts := atoms_spec (ws := wsX4_touchedNodes) B.pre
  have hown : s.vm.findClass RX4 = some m.cls := findClass_of_methodNamed B.named
  have hlocks := B.notSynchronized
  have hl := lv_entry ([.ref h_x, .int p0, .int p1]) (n := 3) (Nat.le_of_ble_eq_true rfl)
  rw [lg_entry_eq]
  generalize (lg_sl ([.ref h_x, .int p0, .int p1]) ++ List.replicate (3 - (lg_sl ([.ref h_x, .int p0, .int p1])).length) Slot.unset).toArray = ls at hl ⊢
  have hl : lv_has ls 3 [(0, .ref h_x), (1, .int p0), (2, .int p1)] := hl
  obtain ⟨QQ, hQQ⟩ : ∃ Z, Z = MQ below (vp_Si (fun z => z = r)) ([.ref h_x, .int p0, .int p1] : List Value).toArray s 0 0 (fun _ => False) := ⟨_, rfl⟩
  rw [← hQQ]
  unfold fX4_touchedNodes at h
  refine lv_iload_n hx hb dX4_touchedNodes_0 rfl (lv_at hl 1 rfl) ?_
  obtain ⟨v1, hq2, h⟩ := bd1_e h
  refine zz_cS (As := [.int p0]) ⟨hx, hb, hml, hown, hts⟩ (kX4_isOfSwitch l D cI cZ cL p0 N hq2) (va_cwS 1 hts gX4_touchedNodes_X4_isOfSwitch rfl rfl rfl (by decide +kernel) ⟨Nat.le_of_ble_eq_true rfl, Nat.le_of_ble_eq_true rfl⟩) (hP.sub (ws' := []) [] rfl) hKK rfl hl.1 rfl (Nat.le_of_ble_eq_true rfl) dX4_touchedNodes_1 ⟨Nat.le_of_ble_eq_true rfl, Nat.le_of_ble_eq_true rfl⟩ ?_
  refine lv_if_eq (tgt := 18) hx hb dX4_touchedNodes_4 (by decide) (fun c3 => ?_) (fun c3 => ?_)
  · have h := it_t h c3
    refine lv_iconst (v := 1) hx hb dX4_touchedNodes_18 (by decide) ?_
    refine lv_iload_n hx hb dX4_touchedNodes_19 rfl (lv_at hl 2 rfl) ?_
    refine lv_ishl hx hb dX4_touchedNodes_20 ?_
    rw [hQQ]
    exact W.iret (v := (1 : Int32) <<< (p1 &&& 31)) hx hb hr (fun t ht hW => ⟨_, rfl, Option.some.inj h, ht⟩) (fun q hq => absurd hq List.not_mem_nil) dX4_touchedNodes_21
  · have h := it_f h c3
    refine lv_aload_n hx hb dX4_touchedNodes_7 rfl (lv_at hl 0 rfl) ?_
    refine va_get (D := D) (ci := 4) (v := .ref h_net) (C := RX4) (T := TX4) (N := 7) hx hb hts inX4_touchedNodes_X4 hown hK hP 0 rfl rfl 0 (by decide) (hts _ lkX4_touchedNodes_0) (fun _ h9 => h9) rfl dX4_touchedNodes_8 ?_
    refine lv_iload_n hx hb dX4_touchedNodes_11 rfl (lv_at hl 2 rfl) ?_
    obtain ⟨v4, hq5, h⟩ := bd1_e h
    refine zz_cV (As := [.int p1]) ⟨hx, hb, hml, hown, hts⟩ (kX1_endsOf l D cI cZ cL h_net h_ends nc sc br so lo ends p1 N hq5) (cwV 1 hts gX4_touchedNodes_X1_endsOf rfl rfl rfl (by decide +kernel) ⟨Nat.le_of_ble_eq_true rfl, Nat.le_of_ble_eq_true rfl⟩) (hP.sub (ws' := [(h_net, .inr (1, [.ref h_ends, .int nc, .int sc, .int br, .int so, .int lo])), (h_ends, .inl (cI, 24, .inl ends))]) [1, 2] rfl) hKK (va_recv hK hP (ci := 1) (q0 := 1) rfl rfl) rfl hl.1 rfl (Nat.le_of_ble_eq_true rfl) dX4_touchedNodes_12 ⟨Nat.le_of_ble_eq_true rfl, Nat.le_of_ble_eq_true rfl⟩ ?_
    refine lv_goto (tgt := 21) hx hb dX4_touchedNodes_15 (by decide) ?_
    rw [hQQ]
    exact W.iret (v := v4) hx hb hr (fun t ht hW => ⟨_, rfl, Option.some.inj h, ht⟩) (fun q hq => absurd hq List.not_mem_nil) dX4_touchedNodes_21

def fX4_areSafe (N : Nat) (nc : Int32) (sc : Int32) (br : Int32) (so : Int32) (lo : Int32) (ends : Nat → Int32) (tcl : Int32) (tea : Int32) (ton : Int32) (p0 : Int32) : Option ((Int32)) :=
  bd1 (fX1_earthedNodes N nc sc br so lo ends tcl tea ton) (fun v1 => (if (p0 &&& (v1 ^^^ (-1))) = 0 then bd1 (fX1_liveNodes N nc sc br so lo ends tcl tea ton) (fun v4 => (if (p0 &&& v4) = 0 then some 1 else some 0)) else some 0))
set_option maxRecDepth 100000 in
theorem inX4_areSafe_X4 : ∀ w ∈ wsX40, w ∈ wsX4_areSafe := by decide +kernel
set_option maxRecDepth 100000 in
theorem lkX4_areSafe_0 : (.fieldLink RX4 10 "Switchlog" "net" "LSwitchlog$Net;" : Cond) ∈ wsX4_areSafe := by decide +kernel
abbrev rmX4_areSafe : Room := { frames := 2, cells := 0, slots := 0, locals := 48 }
set_option maxHeartbeats 4000000 in
set_option maxRecDepth 100000 in
theorem kX4_areSafe (l : Launch) (D : va_G) (cI cZ cL : ClassId) (h_x a_now a_don a_wri a_per a_tho a_aft h_net h_ends h_st : Nat) (nc : Int32) (sc : Int32) (br : Int32) (so : Int32) (lo : Int32) (ends : Nat → Int32) (tcl : Int32) (tea : Int32) (ton : Int32) (p0 : Int32) (N : Nat) {r : Int32} (h : fX4_areSafe N nc sc br so lo ends tcl tea ton p0 = some r) : Met l yX4_areSafe wsX4_areSafe rmX4_areSafe (PR D cI cZ cL [.ref h_x, .int p0, .ref h_st] [(h_x, .inr (4, [.ref h_net, .ref a_now, .ref a_don, .ref a_wri, .ref a_per, .ref a_tho, .ref a_aft])), (h_net, .inr (1, [.ref h_ends, .int nc, .int sc, .int br, .int so, .int lo])), (h_ends, .inl (cI, 24, .inl ends)), (h_st, .inr (3, [.int tcl, .int tea, .int ton]))]) (vp_Si (fun z => z = r)) 0 0 (fun _ => False) := by
  refine Met.ofW (cc := cX4_areSafe) (maxL := 3) (ret := (some .boolean)) (by decide) rfl ?_
  intro p e s m args below meth c s₁ B hml hv
  obtain ⟨rfl, hP, hKK⟩ := hv
  have hK := hKK.1
  have hx := B.exec
  have hb := B.bytes
  have hr := B.returns
  have hts := atoms_spec (ws := wsX4_areSafe) B.pre
  have hown : s.vm.findClass RX4 = some m.cls := findClass_of_methodNamed B.named
  have hlocks := B.notSynchronized
  have hl := lv_entry ([.ref h_x, .int p0, .ref h_st]) (n := 3) (Nat.le_of_ble_eq_true rfl)
  rw [lg_entry_eq]
  generalize (lg_sl ([.ref h_x, .int p0, .ref h_st]) ++ List.replicate (3 - (lg_sl ([.ref h_x, .int p0, .ref h_st])).length) Slot.unset).toArray = ls at hl ⊢
  have hl : lv_has ls 3 [(0, .ref h_x), (1, .int p0), (2, .ref h_st)] := hl
  obtain ⟨QQ, hQQ⟩ : ∃ Z, Z = MQ below (vp_Si (fun z => z = r)) ([.ref h_x, .int p0, .ref h_st] : List Value).toArray s 0 0 (fun _ => False) := ⟨_, rfl⟩
  rw [← hQQ]
  unfold fX4_areSafe at h
  refine lv_iload_n hx hb dX4_areSafe_0 rfl (lv_at hl 1 rfl) ?_
  refine lv_aload_n hx hb dX4_areSafe_1 rfl (lv_at hl 0 rfl) ?_
  refine va_get (D := D) (ci := 4) (v := .ref h_net) (C := RX4) (T := TX4) (N := 7) hx hb hts inX4_areSafe_X4 hown hK hP 0 rfl rfl 0 (by decide) (hts _ lkX4_areSafe_0) (fun _ h9 => h9) rfl dX4_areSafe_2 ?_
  refine lv_aload_n hx hb dX4_areSafe_5 rfl (lv_at hl 2 rfl) ?_
  obtain ⟨v1, hq2, h⟩ := bd1_e h
  refine zz_cV (As := [.ref h_st]) ⟨hx, hb, hml, hown, hts⟩ (kX1_earthedNodes l D cI cZ cL h_net h_ends h_st nc sc br so lo ends tcl tea ton N hq2) (cwV 1 hts gX4_areSafe_X1_earthedNodes rfl rfl rfl (by decide +kernel) ⟨Nat.le_of_ble_eq_true rfl, Nat.le_of_ble_eq_true rfl⟩) (hP.sub (ws' := [(h_net, .inr (1, [.ref h_ends, .int nc, .int sc, .int br, .int so, .int lo])), (h_ends, .inl (cI, 24, .inl ends)), (h_st, .inr (3, [.int tcl, .int tea, .int ton]))]) [1, 2, 3] rfl) hKK (va_recv hK hP (ci := 1) (q0 := 1) rfl rfl) rfl hl.1 rfl (Nat.le_of_ble_eq_true rfl) dX4_areSafe_6 ⟨Nat.le_of_ble_eq_true rfl, Nat.le_of_ble_eq_true rfl⟩ ?_
  refine lv_iconst (v := (-1)) hx hb dX4_areSafe_9 (by decide) ?_
  refine lv_ixor hx hb dX4_areSafe_10 ?_
  refine lv_iand hx hb dX4_areSafe_11 ?_
  refine lv_if_ne (tgt := 32) hx hb dX4_areSafe_12 (by decide) (fun c3 => ?_) (fun c3 => ?_)
  · have h := it_f h c3
    refine lv_iconst (v := 0) hx hb dX4_areSafe_32 (by decide) ?_
    rw [hQQ]
    exact W.zret (v := 0) hx hb hr (by decide) (fun t ht hW => ⟨_, rfl, Option.some.inj h, ht⟩) (fun q hq => absurd hq List.not_mem_nil) dX4_areSafe_33
  · have h := it_t h c3
    refine lv_iload_n hx hb dX4_areSafe_15 rfl (lv_at hl 1 rfl) ?_
    refine lv_aload_n hx hb dX4_areSafe_16 rfl (lv_at hl 0 rfl) ?_
    refine va_get (D := D) (ci := 4) (v := .ref h_net) (C := RX4) (T := TX4) (N := 7) hx hb hts inX4_areSafe_X4 hown hK hP 0 rfl rfl 0 (by decide) (hts _ lkX4_areSafe_0) (fun _ h9 => h9) rfl dX4_areSafe_17 ?_
    refine lv_aload_n hx hb dX4_areSafe_20 rfl (lv_at hl 2 rfl) ?_
    obtain ⟨v4, hq5, h⟩ := bd1_e h
    refine zz_cV (As := [.ref h_st]) ⟨hx, hb, hml, hown, hts⟩ (kX1_liveNodes l D cI cZ cL h_net h_ends h_st nc sc br so lo ends tcl tea ton N hq5) (cwV 1 hts gX4_areSafe_X1_liveNodes rfl rfl rfl (by decide +kernel) ⟨Nat.le_of_ble_eq_true rfl, Nat.le_of_ble_eq_true rfl⟩) (hP.sub (ws' := [(h_net, .inr (1, [.ref h_ends, .int nc, .int sc, .int br, .int so, .int lo])), (h_ends, .inl (cI, 24, .inl ends)), (h_st, .inr (3, [.int tcl, .int tea, .int ton]))]) [1, 2, 3] rfl) hKK (va_recv hK hP (ci := 1) (q0 := 1) rfl rfl) rfl hl.1 rfl (Nat.le_of_ble_eq_true rfl) dX4_areSafe_21 ⟨Nat.le_of_ble_eq_true rfl, Nat.le_of_ble_eq_true rfl⟩ ?_
    refine lv_iand hx hb dX4_areSafe_24 ?_
    refine lv_if_ne (tgt := 32) hx hb dX4_areSafe_25 (by decide) (fun c6 => ?_) (fun c6 => ?_)
    · have h := it_f h c6
      refine lv_iconst (v := 0) hx hb dX4_areSafe_32 (by decide) ?_
      rw [hQQ]
      exact W.zret (v := 0) hx hb hr (by decide) (fun t ht hW => ⟨_, rfl, Option.some.inj h, ht⟩) (fun q hq => absurd hq List.not_mem_nil) dX4_areSafe_33
    · have h := it_t h c6
      refine lv_iconst (v := 1) hx hb dX4_areSafe_28 (by decide) ?_
      refine lv_goto (tgt := 33) hx hb dX4_areSafe_29 (by decide) ?_
      rw [hQQ]
      exact W.zret (v := 1) hx hb hr (by decide) (fun t ht hW => ⟨_, rfl, Option.some.inj h, ht⟩) (fun q hq => absurd hq List.not_mem_nil) dX4_areSafe_33

def fX4_breaksLoad (N : Nat) (nc : Int32) (sc : Int32) (br : Int32) (so : Int32) (lo : Int32) (ends : Nat → Int32) (bc : Int32) (be : Int32) (bo : Int32) (ac : Int32) (ae : Int32) (ao : Int32) (p1 : Int32) : Option ((Int32)) :=
  bd1 (fX1_isBreaker N nc sc br so lo p1) (fun v1 => (if v1 = 0 then bd1 (fX1_loadedNodes N nc sc br so lo ends bc be bo) (fun v4 => bd1 (fX1_endsOf N nc sc br so lo ends p1) (fun v6 => (if (v4 &&& v6) = 0 then some 0 else bd1 (fX1_areEndsConnected N nc sc br so lo ends ac ae ao p1) (fun v9 => (if v9 = 0 then some 1 else some 0))))) else some 0))
set_option maxRecDepth 100000 in
theorem inX4_breaksLoad_X4 : ∀ w ∈ wsX40, w ∈ wsX4_breaksLoad := by decide +kernel
set_option maxRecDepth 100000 in
theorem lkX4_breaksLoad_0 : (.fieldLink RX4 10 "Switchlog" "net" "LSwitchlog$Net;" : Cond) ∈ wsX4_breaksLoad := by decide +kernel
set_option maxRecDepth 100000 in
theorem lkX4_breaksLoad_1 : (.fieldLink RX4 45 "Switchlog" "after" "LSwitchlog$State;" : Cond) ∈ wsX4_breaksLoad := by decide +kernel
abbrev rmX4_breaksLoad : Room := { frames := 2, cells := 0, slots := 0, locals := 51 }
set_option maxHeartbeats 4000000 in
set_option maxRecDepth 100000 in
theorem kX4_breaksLoad (l : Launch) (D : va_G) (cI cZ cL : ClassId) (h_x a_now a_don a_wri a_per a_tho h_net h_ends h_bef h_aft : Nat) (nc : Int32) (sc : Int32) (br : Int32) (so : Int32) (lo : Int32) (ends : Nat → Int32) (bc : Int32) (be : Int32) (bo : Int32) (ac : Int32) (ae : Int32) (ao : Int32) (p1 : Int32) (N : Nat) {r : Int32} (h : fX4_breaksLoad N nc sc br so lo ends bc be bo ac ae ao p1 = some r) : Met l yX4_breaksLoad wsX4_breaksLoad rmX4_breaksLoad (PR D cI cZ cL [.ref h_x, .ref h_bef, .int p1] [(h_x, .inr (4, [.ref h_net, .ref a_now, .ref a_don, .ref a_wri, .ref a_per, .ref a_tho, .ref h_aft])), (h_net, .inr (1, [.ref h_ends, .int nc, .int sc, .int br, .int so, .int lo])), (h_ends, .inl (cI, 24, .inl ends)), (h_bef, .inr (3, [.int bc, .int be, .int bo])), (h_aft, .inr (3, [.int ac, .int ae, .int ao]))]) (vp_Si (fun z => z = r)) 0 0 (fun _ => False) := by
  refine Met.ofW (cc := cX4_breaksLoad) (maxL := 3) (ret := (some .boolean)) (by decide) rfl ?_
  intro p e s m args below meth c s₁ B hml hv
  obtain ⟨rfl, hP, hKK⟩ := hv
  have hK := hKK.1
  have hx := B.exec
  have hb := B.bytes
  have hr := B.returns
  have hts := atoms_spec (ws := wsX4_breaksLoad) B.pre
  have hown : s.vm.findClass RX4 = some m.cls := findClass_of_methodNamed B.named
  have hlocks := B.notSynchronized
  have hl := lv_entry ([.ref h_x, .ref h_bef, .int p1]) (n := 3) (Nat.le_of_ble_eq_true rfl)
  rw [lg_entry_eq]
  generalize (lg_sl ([.ref h_x, .ref h_bef, .int p1]) ++ List.replicate (3 - (lg_sl ([.ref h_x, .ref h_bef, .int p1])).length) Slot.unset).toArray = ls at hl ⊢
  have hl : lv_has ls 3 [(0, .ref h_x), (1, .ref h_bef), (2, .int p1)] := hl
  obtain ⟨QQ, hQQ⟩ : ∃ Z, Z = MQ below (vp_Si (fun z => z = r)) ([.ref h_x, .ref h_bef, .int p1] : List Value).toArray s 0 0 (fun _ => False) := ⟨_, rfl⟩
  rw [← hQQ]
  unfold fX4_breaksLoad at h
  refine lv_aload_n hx hb dX4_breaksLoad_0 rfl (lv_at hl 0 rfl) ?_
  refine va_get (D := D) (ci := 4) (v := .ref h_net) (C := RX4) (T := TX4) (N := 7) hx hb hts inX4_breaksLoad_X4 hown hK hP 0 rfl rfl 0 (by decide) (hts _ lkX4_breaksLoad_0) (fun _ h9 => h9) rfl dX4_breaksLoad_1 ?_
  refine lv_iload_n hx hb dX4_breaksLoad_4 rfl (lv_at hl 2 rfl) ?_
  obtain ⟨v1, hq2, h⟩ := bd1_e h
  refine zz_cV (As := [.int p1]) ⟨hx, hb, hml, hown, hts⟩ (kX1_isBreaker l D cI cZ cL h_net h_ends nc sc br so lo p1 N hq2) (cwV 1 hts gX4_breaksLoad_X1_isBreaker rfl rfl rfl (by decide +kernel) ⟨Nat.le_of_ble_eq_true rfl, Nat.le_of_ble_eq_true rfl⟩) (hP.sub (ws' := [(h_net, .inr (1, [.ref h_ends, .int nc, .int sc, .int br, .int so, .int lo]))]) [1] rfl) hKK (va_recv hK hP (ci := 1) (q0 := 1) rfl rfl) rfl hl.1 rfl (Nat.le_of_ble_eq_true rfl) dX4_breaksLoad_5 ⟨Nat.le_of_ble_eq_true rfl, Nat.le_of_ble_eq_true rfl⟩ ?_
  refine lv_if_ne (tgt := 50) hx hb dX4_breaksLoad_8 (by decide) (fun c3 => ?_) (fun c3 => ?_)
  · have h := it_f h c3
    refine lv_iconst (v := 0) hx hb dX4_breaksLoad_50 (by decide) ?_
    rw [hQQ]
    exact W.zret (v := 0) hx hb hr (by decide) (fun t ht hW => ⟨_, rfl, Option.some.inj h, ht⟩) (fun q hq => absurd hq List.not_mem_nil) dX4_breaksLoad_51
  · have h := it_t h c3
    refine lv_aload_n hx hb dX4_breaksLoad_11 rfl (lv_at hl 0 rfl) ?_
    refine va_get (D := D) (ci := 4) (v := .ref h_net) (C := RX4) (T := TX4) (N := 7) hx hb hts inX4_breaksLoad_X4 hown hK hP 0 rfl rfl 0 (by decide) (hts _ lkX4_breaksLoad_0) (fun _ h9 => h9) rfl dX4_breaksLoad_12 ?_
    refine lv_aload_n hx hb dX4_breaksLoad_15 rfl (lv_at hl 1 rfl) ?_
    obtain ⟨v4, hq5, h⟩ := bd1_e h
    refine zz_cV (As := [.ref h_bef]) ⟨hx, hb, hml, hown, hts⟩ (kX1_loadedNodes l D cI cZ cL h_net h_ends h_bef nc sc br so lo ends bc be bo N hq5) (cwV 1 hts gX4_breaksLoad_X1_loadedNodes rfl rfl rfl (by decide +kernel) ⟨Nat.le_of_ble_eq_true rfl, Nat.le_of_ble_eq_true rfl⟩) (hP.sub (ws' := [(h_net, .inr (1, [.ref h_ends, .int nc, .int sc, .int br, .int so, .int lo])), (h_ends, .inl (cI, 24, .inl ends)), (h_bef, .inr (3, [.int bc, .int be, .int bo]))]) [1, 2, 3] rfl) hKK (va_recv hK hP (ci := 1) (q0 := 1) rfl rfl) rfl hl.1 rfl (Nat.le_of_ble_eq_true rfl) dX4_breaksLoad_16 ⟨Nat.le_of_ble_eq_true rfl, Nat.le_of_ble_eq_true rfl⟩ ?_
    refine lv_aload_n hx hb dX4_breaksLoad_19 rfl (lv_at hl 0 rfl) ?_
    refine va_get (D := D) (ci := 4) (v := .ref h_net) (C := RX4) (T := TX4) (N := 7) hx hb hts inX4_breaksLoad_X4 hown hK hP 0 rfl rfl 0 (by decide) (hts _ lkX4_breaksLoad_0) (fun _ h9 => h9) rfl dX4_breaksLoad_20 ?_
    refine lv_iload_n hx hb dX4_breaksLoad_23 rfl (lv_at hl 2 rfl) ?_
    obtain ⟨v6, hq7, h⟩ := bd1_e h
    refine zz_cV (As := [.int p1]) ⟨hx, hb, hml, hown, hts⟩ (kX1_endsOf l D cI cZ cL h_net h_ends nc sc br so lo ends p1 N hq7) (cwV 1 hts gX4_breaksLoad_X1_endsOf rfl rfl rfl (by decide +kernel) ⟨Nat.le_of_ble_eq_true rfl, Nat.le_of_ble_eq_true rfl⟩) (hP.sub (ws' := [(h_net, .inr (1, [.ref h_ends, .int nc, .int sc, .int br, .int so, .int lo])), (h_ends, .inl (cI, 24, .inl ends))]) [1, 2] rfl) hKK (va_recv hK hP (ci := 1) (q0 := 1) rfl rfl) rfl hl.1 rfl (Nat.le_of_ble_eq_true rfl) dX4_breaksLoad_24 ⟨Nat.le_of_ble_eq_true rfl, Nat.le_of_ble_eq_true rfl⟩ ?_
    refine lv_iand hx hb dX4_breaksLoad_27 ?_
    refine lv_if_eq (tgt := 50) hx hb dX4_breaksLoad_28 (by decide) (fun c8 => ?_) (fun c8 => ?_)
    · have h := it_t h c8
      refine lv_iconst (v := 0) hx hb dX4_breaksLoad_50 (by decide) ?_
      rw [hQQ]
      exact W.zret (v := 0) hx hb hr (by decide) (fun t ht hW => ⟨_, rfl, Option.some.inj h, ht⟩) (fun q hq => absurd hq List.not_mem_nil) dX4_breaksLoad_51
    · have h := it_f h c8
      refine lv_aload_n hx hb dX4_breaksLoad_31 rfl (lv_at hl 0 rfl) ?_
      refine va_get (D := D) (ci := 4) (v := .ref h_net) (C := RX4) (T := TX4) (N := 7) hx hb hts inX4_breaksLoad_X4 hown hK hP 0 rfl rfl 0 (by decide) (hts _ lkX4_breaksLoad_0) (fun _ h9 => h9) rfl dX4_breaksLoad_32 ?_
      refine lv_iload_n hx hb dX4_breaksLoad_35 rfl (lv_at hl 2 rfl) ?_
      refine lv_aload_n hx hb dX4_breaksLoad_36 rfl (lv_at hl 0 rfl) ?_
      refine va_get (D := D) (ci := 4) (v := .ref h_aft) (C := RX4) (T := TX4) (N := 7) hx hb hts inX4_breaksLoad_X4 hown hK hP 0 rfl rfl 6 (by decide) (hts _ lkX4_breaksLoad_1) (fun _ h9 => h9) rfl dX4_breaksLoad_37 ?_
      obtain ⟨v9, hq10, h⟩ := bd1_e h
      refine zz_cV (As := [.int p1, .ref h_aft]) ⟨hx, hb, hml, hown, hts⟩ (kX1_areEndsConnected l D cI cZ cL h_net h_ends h_aft nc sc br so lo ends ac ae ao p1 N hq10) (cwV 2 hts gX4_breaksLoad_X1_areEndsConnected rfl rfl rfl (by decide +kernel) ⟨Nat.le_of_ble_eq_true rfl, Nat.le_of_ble_eq_true rfl⟩) (hP.sub (ws' := [(h_net, .inr (1, [.ref h_ends, .int nc, .int sc, .int br, .int so, .int lo])), (h_ends, .inl (cI, 24, .inl ends)), (h_aft, .inr (3, [.int ac, .int ae, .int ao]))]) [1, 2, 4] rfl) hKK (va_recv hK hP (ci := 1) (q0 := 1) rfl rfl) rfl hl.1 rfl (Nat.le_of_ble_eq_true rfl) dX4_breaksLoad_40 ⟨Nat.le_of_ble_eq_true rfl, Nat.le_of_ble_eq_true rfl⟩ ?_
      refine lv_if_ne (tgt := 50) hx hb dX4_breaksLoad_43 (by decide) (fun c11 => ?_) (fun c11 => ?_)
      · have h := it_f h c11
        refine lv_iconst (v := 0) hx hb dX4_breaksLoad_50 (by decide) ?_
        rw [hQQ]
        exact W.zret (v := 0) hx hb hr (by decide) (fun t ht hW => ⟨_, rfl, Option.some.inj h, ht⟩) (fun q hq => absurd hq List.not_mem_nil) dX4_breaksLoad_51
      · have h := it_t h c11
        refine lv_iconst (v := 1) hx hb dX4_breaksLoad_46 (by decide) ?_
        refine lv_goto (tgt := 51) hx hb dX4_breaksLoad_47 (by decide) ?_
        rw [hQQ]
        exact W.zret (v := 1) hx hb hr (by decide) (fun t ht hW => ⟨_, rfl, Option.some.inj h, ht⟩) (fun q hq => absurd hq List.not_mem_nil) dX4_breaksLoad_51

def fX4_makesLoad (N : Nat) (nc : Int32) (sc : Int32) (br : Int32) (so : Int32) (lo : Int32) (ends : Nat → Int32) (bc : Int32) (be : Int32) (bo : Int32) (ac : Int32) (ae : Int32) (ao : Int32) (p1 : Int32) : Option ((Int32)) :=
  bd1 (fX1_isBreaker N nc sc br so lo p1) (fun v1 => (if v1 = 0 then bd1 (fX1_areEndsConnected N nc sc br so lo ends bc be bo p1) (fun v4 => (if v4 = 0 then bd1 (fX1_loadedNodes N nc sc br so lo ends ac ae ao) (fun v7 => bd1 (fX1_endsOf N nc sc br so lo ends p1) (fun v9 => (if (v7 &&& v9) = 0 then some 0 else some 1))) else some 0)) else some 0))
set_option maxRecDepth 100000 in
theorem inX4_makesLoad_X4 : ∀ w ∈ wsX40, w ∈ wsX4_makesLoad := by decide +kernel
set_option maxRecDepth 100000 in
theorem lkX4_makesLoad_0 : (.fieldLink RX4 10 "Switchlog" "net" "LSwitchlog$Net;" : Cond) ∈ wsX4_makesLoad := by decide +kernel
set_option maxRecDepth 100000 in
theorem lkX4_makesLoad_1 : (.fieldLink RX4 45 "Switchlog" "after" "LSwitchlog$State;" : Cond) ∈ wsX4_makesLoad := by decide +kernel
abbrev rmX4_makesLoad : Room := { frames := 2, cells := 0, slots := 0, locals := 51 }
set_option maxHeartbeats 4000000 in
set_option maxRecDepth 100000 in
theorem kX4_makesLoad (l : Launch) (D : va_G) (cI cZ cL : ClassId) (h_x a_now a_don a_wri a_per a_tho h_net h_ends h_bef h_aft : Nat) (nc : Int32) (sc : Int32) (br : Int32) (so : Int32) (lo : Int32) (ends : Nat → Int32) (bc : Int32) (be : Int32) (bo : Int32) (ac : Int32) (ae : Int32) (ao : Int32) (p1 : Int32) (N : Nat) {r : Int32} (h : fX4_makesLoad N nc sc br so lo ends bc be bo ac ae ao p1 = some r) : Met l yX4_makesLoad wsX4_makesLoad rmX4_makesLoad (PR D cI cZ cL [.ref h_x, .ref h_bef, .int p1] [(h_x, .inr (4, [.ref h_net, .ref a_now, .ref a_don, .ref a_wri, .ref a_per, .ref a_tho, .ref h_aft])), (h_net, .inr (1, [.ref h_ends, .int nc, .int sc, .int br, .int so, .int lo])), (h_ends, .inl (cI, 24, .inl ends)), (h_bef, .inr (3, [.int bc, .int be, .int bo])), (h_aft, .inr (3, [.int ac, .int ae, .int ao]))]) (vp_Si (fun z => z = r)) 0 0 (fun _ => False) := by
  refine Met.ofW (cc := cX4_makesLoad) (maxL := 3) (ret := (some .boolean)) (by decide) rfl ?_
  intro p e s m args below meth c s₁ B hml hv
  obtain ⟨rfl, hP, hKK⟩ := hv
  have hK := hKK.1
  have hx := B.exec
  have hb := B.bytes
  have hr := B.returns
  have hts := atoms_spec (ws := wsX4_makesLoad) B.pre
  have hown : s.vm.findClass RX4 = some m.cls := findClass_of_methodNamed B.named
  have hlocks := B.notSynchronized
  have hl := lv_entry ([.ref h_x, .ref h_bef, .int p1]) (n := 3) (Nat.le_of_ble_eq_true rfl)
  rw [lg_entry_eq]
  generalize (lg_sl ([.ref h_x, .ref h_bef, .int p1]) ++ List.replicate (3 - (lg_sl ([.ref h_x, .ref h_bef, .int p1])).length) Slot.unset).toArray = ls at hl ⊢
  have hl : lv_has ls 3 [(0, .ref h_x), (1, .ref h_bef), (2, .int p1)] := hl
  obtain ⟨QQ, hQQ⟩ : ∃ Z, Z = MQ below (vp_Si (fun z => z = r)) ([.ref h_x, .ref h_bef, .int p1] : List Value).toArray s 0 0 (fun _ => False) := ⟨_, rfl⟩
  rw [← hQQ]
  unfold fX4_makesLoad at h
  refine lv_aload_n hx hb dX4_makesLoad_0 rfl (lv_at hl 0 rfl) ?_
  refine va_get (D := D) (ci := 4) (v := .ref h_net) (C := RX4) (T := TX4) (N := 7) hx hb hts inX4_makesLoad_X4 hown hK hP 0 rfl rfl 0 (by decide) (hts _ lkX4_makesLoad_0) (fun _ h9 => h9) rfl dX4_makesLoad_1 ?_
  refine lv_iload_n hx hb dX4_makesLoad_4 rfl (lv_at hl 2 rfl) ?_
  obtain ⟨v1, hq2, h⟩ := bd1_e h
  refine zz_cV (As := [.int p1]) ⟨hx, hb, hml, hown, hts⟩ (kX1_isBreaker l D cI cZ cL h_net h_ends nc sc br so lo p1 N hq2) (cwV 1 hts gX4_makesLoad_X1_isBreaker rfl rfl rfl (by decide +kernel) ⟨Nat.le_of_ble_eq_true rfl, Nat.le_of_ble_eq_true rfl⟩) (hP.sub (ws' := [(h_net, .inr (1, [.ref h_ends, .int nc, .int sc, .int br, .int so, .int lo]))]) [1] rfl) hKK (va_recv hK hP (ci := 1) (q0 := 1) rfl rfl) rfl hl.1 rfl (Nat.le_of_ble_eq_true rfl) dX4_makesLoad_5 ⟨Nat.le_of_ble_eq_true rfl, Nat.le_of_ble_eq_true rfl⟩ ?_
  refine lv_if_ne (tgt := 50) hx hb dX4_makesLoad_8 (by decide) (fun c3 => ?_) (fun c3 => ?_)
  · have h := it_f h c3
    refine lv_iconst (v := 0) hx hb dX4_makesLoad_50 (by decide) ?_
    rw [hQQ]
    exact W.zret (v := 0) hx hb hr (by decide) (fun t ht hW => ⟨_, rfl, Option.some.inj h, ht⟩) (fun q hq => absurd hq List.not_mem_nil) dX4_makesLoad_51
  · have h := it_t h c3
    refine lv_aload_n hx hb dX4_makesLoad_11 rfl (lv_at hl 0 rfl) ?_
    refine va_get (D := D) (ci := 4) (v := .ref h_net) (C := RX4) (T := TX4) (N := 7) hx hb hts inX4_makesLoad_X4 hown hK hP 0 rfl rfl 0 (by decide) (hts _ lkX4_makesLoad_0) (fun _ h9 => h9) rfl dX4_makesLoad_12 ?_
    refine lv_iload_n hx hb dX4_makesLoad_15 rfl (lv_at hl 2 rfl) ?_
    refine lv_aload_n hx hb dX4_makesLoad_16 rfl (lv_at hl 1 rfl) ?_
    obtain ⟨v4, hq5, h⟩ := bd1_e h
    refine zz_cV (As := [.int p1, .ref h_bef]) ⟨hx, hb, hml, hown, hts⟩ (kX1_areEndsConnected l D cI cZ cL h_net h_ends h_bef nc sc br so lo ends bc be bo p1 N hq5) (cwV 2 hts gX4_makesLoad_X1_areEndsConnected rfl rfl rfl (by decide +kernel) ⟨Nat.le_of_ble_eq_true rfl, Nat.le_of_ble_eq_true rfl⟩) (hP.sub (ws' := [(h_net, .inr (1, [.ref h_ends, .int nc, .int sc, .int br, .int so, .int lo])), (h_ends, .inl (cI, 24, .inl ends)), (h_bef, .inr (3, [.int bc, .int be, .int bo]))]) [1, 2, 3] rfl) hKK (va_recv hK hP (ci := 1) (q0 := 1) rfl rfl) rfl hl.1 rfl (Nat.le_of_ble_eq_true rfl) dX4_makesLoad_17 ⟨Nat.le_of_ble_eq_true rfl, Nat.le_of_ble_eq_true rfl⟩ ?_
    refine lv_if_ne (tgt := 50) hx hb dX4_makesLoad_20 (by decide) (fun c6 => ?_) (fun c6 => ?_)
    · have h := it_f h c6
      refine lv_iconst (v := 0) hx hb dX4_makesLoad_50 (by decide) ?_
      rw [hQQ]
      exact W.zret (v := 0) hx hb hr (by decide) (fun t ht hW => ⟨_, rfl, Option.some.inj h, ht⟩) (fun q hq => absurd hq List.not_mem_nil) dX4_makesLoad_51
    · have h := it_t h c6
      refine lv_aload_n hx hb dX4_makesLoad_23 rfl (lv_at hl 0 rfl) ?_
      refine va_get (D := D) (ci := 4) (v := .ref h_net) (C := RX4) (T := TX4) (N := 7) hx hb hts inX4_makesLoad_X4 hown hK hP 0 rfl rfl 0 (by decide) (hts _ lkX4_makesLoad_0) (fun _ h9 => h9) rfl dX4_makesLoad_24 ?_
      refine lv_aload_n hx hb dX4_makesLoad_27 rfl (lv_at hl 0 rfl) ?_
      refine va_get (D := D) (ci := 4) (v := .ref h_aft) (C := RX4) (T := TX4) (N := 7) hx hb hts inX4_makesLoad_X4 hown hK hP 0 rfl rfl 6 (by decide) (hts _ lkX4_makesLoad_1) (fun _ h9 => h9) rfl dX4_makesLoad_28 ?_
      obtain ⟨v7, hq8, h⟩ := bd1_e h
      refine zz_cV (As := [.ref h_aft]) ⟨hx, hb, hml, hown, hts⟩ (kX1_loadedNodes l D cI cZ cL h_net h_ends h_aft nc sc br so lo ends ac ae ao N hq8) (cwV 1 hts gX4_makesLoad_X1_loadedNodes rfl rfl rfl (by decide +kernel) ⟨Nat.le_of_ble_eq_true rfl, Nat.le_of_ble_eq_true rfl⟩) (hP.sub (ws' := [(h_net, .inr (1, [.ref h_ends, .int nc, .int sc, .int br, .int so, .int lo])), (h_ends, .inl (cI, 24, .inl ends)), (h_aft, .inr (3, [.int ac, .int ae, .int ao]))]) [1, 2, 4] rfl) hKK (va_recv hK hP (ci := 1) (q0 := 1) rfl rfl) rfl hl.1 rfl (Nat.le_of_ble_eq_true rfl) dX4_makesLoad_31 ⟨Nat.le_of_ble_eq_true rfl, Nat.le_of_ble_eq_true rfl⟩ ?_
      refine lv_aload_n hx hb dX4_makesLoad_34 rfl (lv_at hl 0 rfl) ?_
      refine va_get (D := D) (ci := 4) (v := .ref h_net) (C := RX4) (T := TX4) (N := 7) hx hb hts inX4_makesLoad_X4 hown hK hP 0 rfl rfl 0 (by decide) (hts _ lkX4_makesLoad_0) (fun _ h9 => h9) rfl dX4_makesLoad_35 ?_
      refine lv_iload_n hx hb dX4_makesLoad_38 rfl (lv_at hl 2 rfl) ?_
      obtain ⟨v9, hq10, h⟩ := bd1_e h
      refine zz_cV (As := [.int p1]) ⟨hx, hb, hml, hown, hts⟩ (kX1_endsOf l D cI cZ cL h_net h_ends nc sc br so lo ends p1 N hq10) (cwV 1 hts gX4_makesLoad_X1_endsOf rfl rfl rfl (by decide +kernel) ⟨Nat.le_of_ble_eq_true rfl, Nat.le_of_ble_eq_true rfl⟩) (hP.sub (ws' := [(h_net, .inr (1, [.ref h_ends, .int nc, .int sc, .int br, .int so, .int lo])), (h_ends, .inl (cI, 24, .inl ends))]) [1, 2] rfl) hKK (va_recv hK hP (ci := 1) (q0 := 1) rfl rfl) rfl hl.1 rfl (Nat.le_of_ble_eq_true rfl) dX4_makesLoad_39 ⟨Nat.le_of_ble_eq_true rfl, Nat.le_of_ble_eq_true rfl⟩ ?_
      refine lv_iand hx hb dX4_makesLoad_42 ?_
      refine lv_if_eq (tgt := 50) hx hb dX4_makesLoad_43 (by decide) (fun c11 => ?_) (fun c11 => ?_)
      · have h := it_t h c11
        refine lv_iconst (v := 0) hx hb dX4_makesLoad_50 (by decide) ?_
        rw [hQQ]
        exact W.zret (v := 0) hx hb hr (by decide) (fun t ht hW => ⟨_, rfl, Option.some.inj h, ht⟩) (fun q hq => absurd hq List.not_mem_nil) dX4_makesLoad_51
      · have h := it_f h c11
        refine lv_iconst (v := 1) hx hb dX4_makesLoad_46 (by decide) ?_
        refine lv_goto (tgt := 51) hx hb dX4_makesLoad_47 (by decide) ?_
        rw [hQQ]
        exact W.zret (v := 1) hx hb hr (by decide) (fun t ht hW => ⟨_, rfl, Option.some.inj h, ht⟩) (fun q hq => absurd hq List.not_mem_nil) dX4_makesLoad_51

def fX4_joinsLiveAndEarthed (N : Nat) (nc : Int32) (sc : Int32) (br : Int32) (so : Int32) (lo : Int32) (ends : Nat → Int32) (bc : Int32) (be : Int32) (bo : Int32) (p1 : Int32) : Option ((Int32)) :=
  bd1 (fX1_endsOf N nc sc br so lo ends p1) (fun v1 => bd1 (fX1_liveNodes N nc sc br so lo ends bc be bo) (fun v3 => (if (v3 &&& v1) = 0 then some 0 else bd1 (fX1_earthedNodes N nc sc br so lo ends bc be bo) (fun v6 => (if (v6 &&& v1) = 0 then some 0 else some 1)))))
set_option maxRecDepth 100000 in
theorem inX4_joinsLiveAndEarthed_X4 : ∀ w ∈ wsX40, w ∈ wsX4_joinsLiveAndEarthed := by decide +kernel
set_option maxRecDepth 100000 in
theorem lkX4_joinsLiveAndEarthed_0 : (.fieldLink RX4 10 "Switchlog" "net" "LSwitchlog$Net;" : Cond) ∈ wsX4_joinsLiveAndEarthed := by decide +kernel
abbrev rmX4_joinsLiveAndEarthed : Room := { frames := 2, cells := 0, slots := 0, locals := 48 }
set_option maxHeartbeats 4000000 in
set_option maxRecDepth 100000 in
theorem kX4_joinsLiveAndEarthed (l : Launch) (D : va_G) (cI cZ cL : ClassId) (h_x a_now a_don a_wri a_per a_tho a_aft h_net h_ends h_bef : Nat) (nc : Int32) (sc : Int32) (br : Int32) (so : Int32) (lo : Int32) (ends : Nat → Int32) (bc : Int32) (be : Int32) (bo : Int32) (p1 : Int32) (N : Nat) {r : Int32} (h : fX4_joinsLiveAndEarthed N nc sc br so lo ends bc be bo p1 = some r) : Met l yX4_joinsLiveAndEarthed wsX4_joinsLiveAndEarthed rmX4_joinsLiveAndEarthed (PR D cI cZ cL [.ref h_x, .ref h_bef, .int p1] [(h_x, .inr (4, [.ref h_net, .ref a_now, .ref a_don, .ref a_wri, .ref a_per, .ref a_tho, .ref a_aft])), (h_net, .inr (1, [.ref h_ends, .int nc, .int sc, .int br, .int so, .int lo])), (h_ends, .inl (cI, 24, .inl ends)), (h_bef, .inr (3, [.int bc, .int be, .int bo]))]) (vp_Si (fun z => z = r)) 0 0 (fun _ => False) := by
  refine Met.ofW (cc := cX4_joinsLiveAndEarthed) (maxL := 4) (ret := (some .boolean)) (by decide) rfl ?_
  intro p e s m args below meth c s₁ B hml hv
  obtain ⟨rfl, hP, hKK⟩ := hv
  have hK := hKK.1
  have hx := B.exec
  have hb := B.bytes
  have hr := B.returns
  have hts := atoms_spec (ws := wsX4_joinsLiveAndEarthed) B.pre
  have hown : s.vm.findClass RX4 = some m.cls := findClass_of_methodNamed B.named
  have hlocks := B.notSynchronized
  have hl := lv_entry ([.ref h_x, .ref h_bef, .int p1]) (n := 4) (Nat.le_of_ble_eq_true rfl)
  rw [lg_entry_eq]
  generalize (lg_sl ([.ref h_x, .ref h_bef, .int p1]) ++ List.replicate (4 - (lg_sl ([.ref h_x, .ref h_bef, .int p1])).length) Slot.unset).toArray = ls at hl ⊢
  have hl : lv_has ls 4 [(0, .ref h_x), (1, .ref h_bef), (2, .int p1)] := hl
  obtain ⟨QQ, hQQ⟩ : ∃ Z, Z = MQ below (vp_Si (fun z => z = r)) ([.ref h_x, .ref h_bef, .int p1] : List Value).toArray s 0 0 (fun _ => False) := ⟨_, rfl⟩
  rw [← hQQ]
  unfold fX4_joinsLiveAndEarthed at h
  refine lv_aload_n hx hb dX4_joinsLiveAndEarthed_0 rfl (lv_at hl 0 rfl) ?_
  refine va_get (D := D) (ci := 4) (v := .ref h_net) (C := RX4) (T := TX4) (N := 7) hx hb hts inX4_joinsLiveAndEarthed_X4 hown hK hP 0 rfl rfl 0 (by decide) (hts _ lkX4_joinsLiveAndEarthed_0) (fun _ h9 => h9) rfl dX4_joinsLiveAndEarthed_1 ?_
  refine lv_iload_n hx hb dX4_joinsLiveAndEarthed_4 rfl (lv_at hl 2 rfl) ?_
  obtain ⟨v1, hq2, h⟩ := bd1_e h
  refine zz_cV (As := [.int p1]) ⟨hx, hb, hml, hown, hts⟩ (kX1_endsOf l D cI cZ cL h_net h_ends nc sc br so lo ends p1 N hq2) (cwV 1 hts gX4_joinsLiveAndEarthed_X1_endsOf rfl rfl rfl (by decide +kernel) ⟨Nat.le_of_ble_eq_true rfl, Nat.le_of_ble_eq_true rfl⟩) (hP.sub (ws' := [(h_net, .inr (1, [.ref h_ends, .int nc, .int sc, .int br, .int so, .int lo])), (h_ends, .inl (cI, 24, .inl ends))]) [1, 2] rfl) hKK (va_recv hK hP (ci := 1) (q0 := 1) rfl rfl) rfl hl.1 rfl (Nat.le_of_ble_eq_true rfl) dX4_joinsLiveAndEarthed_5 ⟨Nat.le_of_ble_eq_true rfl, Nat.le_of_ble_eq_true rfl⟩ ?_
  refine lv_istore_n (lv' := [(3, .int v1), (0, .ref h_x), (1, .ref h_bef), (2, .int p1)]) hx hb dX4_joinsLiveAndEarthed_8 rfl hl (by decide) rfl (fun ls hl => ?_)
  refine lv_aload_n hx hb dX4_joinsLiveAndEarthed_9 rfl (lv_at hl 1 rfl) ?_
  refine va_get (D := D) (ci := 4) (v := .ref h_net) (C := RX4) (T := TX4) (N := 7) hx hb hts inX4_joinsLiveAndEarthed_X4 hown hK hP 0 rfl rfl 0 (by decide) (hts _ lkX4_joinsLiveAndEarthed_0) (fun _ h9 => h9) rfl dX4_joinsLiveAndEarthed_10 ?_
  refine lv_aload_n hx hb dX4_joinsLiveAndEarthed_13 rfl (lv_at hl 2 rfl) ?_
  obtain ⟨v3, hq4, h⟩ := bd1_e h
  refine zz_cV (As := [.ref h_bef]) ⟨hx, hb, hml, hown, hts⟩ (kX1_liveNodes l D cI cZ cL h_net h_ends h_bef nc sc br so lo ends bc be bo N hq4) (cwV 1 hts gX4_joinsLiveAndEarthed_X1_liveNodes rfl rfl rfl (by decide +kernel) ⟨Nat.le_of_ble_eq_true rfl, Nat.le_of_ble_eq_true rfl⟩) (hP.sub (ws' := [(h_net, .inr (1, [.ref h_ends, .int nc, .int sc, .int br, .int so, .int lo])), (h_ends, .inl (cI, 24, .inl ends)), (h_bef, .inr (3, [.int bc, .int be, .int bo]))]) [1, 2, 3] rfl) hKK (va_recv hK hP (ci := 1) (q0 := 1) rfl rfl) rfl hl.1 rfl (Nat.le_of_ble_eq_true rfl) dX4_joinsLiveAndEarthed_14 ⟨Nat.le_of_ble_eq_true rfl, Nat.le_of_ble_eq_true rfl⟩ ?_
  refine lv_iload_n hx hb dX4_joinsLiveAndEarthed_17 rfl (lv_at hl 0 rfl) ?_
  refine lv_iand hx hb dX4_joinsLiveAndEarthed_18 ?_
  refine lv_if_eq (tgt := 39) hx hb dX4_joinsLiveAndEarthed_19 (by decide) (fun c5 => ?_) (fun c5 => ?_)
  · have h := it_t h c5
    refine lv_iconst (v := 0) hx hb dX4_joinsLiveAndEarthed_39 (by decide) ?_
    rw [hQQ]
    exact W.zret (v := 0) hx hb hr (by decide) (fun t ht hW => ⟨_, rfl, Option.some.inj h, ht⟩) (fun q hq => absurd hq List.not_mem_nil) dX4_joinsLiveAndEarthed_40
  · have h := it_f h c5
    refine lv_aload_n hx hb dX4_joinsLiveAndEarthed_22 rfl (lv_at hl 1 rfl) ?_
    refine va_get (D := D) (ci := 4) (v := .ref h_net) (C := RX4) (T := TX4) (N := 7) hx hb hts inX4_joinsLiveAndEarthed_X4 hown hK hP 0 rfl rfl 0 (by decide) (hts _ lkX4_joinsLiveAndEarthed_0) (fun _ h9 => h9) rfl dX4_joinsLiveAndEarthed_23 ?_
    refine lv_aload_n hx hb dX4_joinsLiveAndEarthed_26 rfl (lv_at hl 2 rfl) ?_
    obtain ⟨v6, hq7, h⟩ := bd1_e h
    refine zz_cV (As := [.ref h_bef]) ⟨hx, hb, hml, hown, hts⟩ (kX1_earthedNodes l D cI cZ cL h_net h_ends h_bef nc sc br so lo ends bc be bo N hq7) (cwV 1 hts gX4_joinsLiveAndEarthed_X1_earthedNodes rfl rfl rfl (by decide +kernel) ⟨Nat.le_of_ble_eq_true rfl, Nat.le_of_ble_eq_true rfl⟩) (hP.sub (ws' := [(h_net, .inr (1, [.ref h_ends, .int nc, .int sc, .int br, .int so, .int lo])), (h_ends, .inl (cI, 24, .inl ends)), (h_bef, .inr (3, [.int bc, .int be, .int bo]))]) [1, 2, 3] rfl) hKK (va_recv hK hP (ci := 1) (q0 := 1) rfl rfl) rfl hl.1 rfl (Nat.le_of_ble_eq_true rfl) dX4_joinsLiveAndEarthed_27 ⟨Nat.le_of_ble_eq_true rfl, Nat.le_of_ble_eq_true rfl⟩ ?_
    refine lv_iload_n hx hb dX4_joinsLiveAndEarthed_30 rfl (lv_at hl 0 rfl) ?_
    refine lv_iand hx hb dX4_joinsLiveAndEarthed_31 ?_
    refine lv_if_eq (tgt := 39) hx hb dX4_joinsLiveAndEarthed_32 (by decide) (fun c8 => ?_) (fun c8 => ?_)
    · have h := it_t h c8
      refine lv_iconst (v := 0) hx hb dX4_joinsLiveAndEarthed_39 (by decide) ?_
      rw [hQQ]
      exact W.zret (v := 0) hx hb hr (by decide) (fun t ht hW => ⟨_, rfl, Option.some.inj h, ht⟩) (fun q hq => absurd hq List.not_mem_nil) dX4_joinsLiveAndEarthed_40
    · have h := it_f h c8
      refine lv_iconst (v := 1) hx hb dX4_joinsLiveAndEarthed_35 (by decide) ?_
      refine lv_goto (tgt := 40) hx hb dX4_joinsLiveAndEarthed_36 (by decide) ?_
      rw [hQQ]
      exact W.zret (v := 1) hx hb hr (by decide) (fun t ht hW => ⟨_, rfl, Option.some.inj h, ht⟩) (fun q hq => absurd hq List.not_mem_nil) dX4_joinsLiveAndEarthed_40

def fX4_isInterlocked (N : Nat) (nc : Int32) (sc : Int32) (br : Int32) (so : Int32) (lo : Int32) (ends : Nat → Int32) (bc : Int32) (be : Int32) (bo : Int32) (ac : Int32) (ae : Int32) (ao : Int32) (p1 : Int32) (p2 : Int32) : Option ((Int32)) :=
  (if p1 = 0 then bd1 (fX4_breaksLoad N nc sc br so lo ends bc be bo ac ae ao p2) (fun v2 => gd (bz v2) (some v2)) else (if p1 = 1 then bd1 (fX4_joinsLiveAndEarthed N nc sc br so lo ends bc be bo p2) (fun v5 => (if v5 = 0 then bd1 (fX4_makesLoad N nc sc br so lo ends bc be bo ac ae ao p2) (fun v8 => (if v8 = 0 then some 0 else some 1)) else some 1)) else (if p1 = 2 then bd1 (fX1_liveNodes N nc sc br so lo ends bc be bo) (fun v12 => (if ((v12 >>> (p2 &&& 31)) &&& 1) = 0 then some 0 else some 1)) else (if p1 = 3 then some 0 else (if p1 = 4 then bd1 (fX1_earthedNodes N nc sc br so lo ends bc be bo) (fun v17 => (if ((v17 >>> (p2 &&& 31)) &&& 1) = 0 then some 0 else some 1)) else some 0)))))
set_option maxRecDepth 100000 in
theorem inX4_isInterlocked_X4 : ∀ w ∈ wsX40, w ∈ wsX4_isInterlocked := by decide +kernel
set_option maxRecDepth 100000 in
theorem lkX4_isInterlocked_0 : (.fieldLink RX4 10 "Switchlog" "net" "LSwitchlog$Net;" : Cond) ∈ wsX4_isInterlocked := by decide +kernel
abbrev rmX4_isInterlocked : Room := { frames := 3, cells := 0, slots := 0, locals := 73 }
set_option maxHeartbeats 4000000 in
set_option maxRecDepth 100000 in
theorem kX4_isInterlocked (l : Launch) (D : va_G) (cI cZ cL : ClassId) (h_x a_now a_don a_wri a_per a_tho h_net h_ends h_bef h_aft : Nat) (nc : Int32) (sc : Int32) (br : Int32) (so : Int32) (lo : Int32) (ends : Nat → Int32) (bc : Int32) (be : Int32) (bo : Int32) (ac : Int32) (ae : Int32) (ao : Int32) (p1 : Int32) (p2 : Int32) (N : Nat) {r : Int32} (h : fX4_isInterlocked N nc sc br so lo ends bc be bo ac ae ao p1 p2 = some r) : Met l yX4_isInterlocked wsX4_isInterlocked rmX4_isInterlocked (PR D cI cZ cL [.ref h_x, .ref h_bef, .int p1, .int p2] [(h_x, .inr (4, [.ref h_net, .ref a_now, .ref a_don, .ref a_wri, .ref a_per, .ref a_tho, .ref h_aft])), (h_net, .inr (1, [.ref h_ends, .int nc, .int sc, .int br, .int so, .int lo])), (h_ends, .inl (cI, 24, .inl ends)), (h_bef, .inr (3, [.int bc, .int be, .int bo])), (h_aft, .inr (3, [.int ac, .int ae, .int ao]))]) (vp_Si (fun z => z = r)) 0 0 (fun _ => False) := by
  refine Met.ofW (cc := cX4_isInterlocked) (maxL := 4) (ret := (some .boolean)) (by decide) rfl ?_
  intro p e s m args below meth c s₁ B hml hv
  obtain ⟨rfl, hP, hKK⟩ := hv
  have hK := hKK.1
  have hx := B.exec
  have hb := B.bytes
  have hr := B.returns
  have hts := atoms_spec (ws := wsX4_isInterlocked) B.pre
  have hown : s.vm.findClass RX4 = some m.cls := findClass_of_methodNamed B.named
  have hlocks := B.notSynchronized
  have hl := lv_entry ([.ref h_x, .ref h_bef, .int p1, .int p2]) (n := 4) (Nat.le_of_ble_eq_true rfl)
  rw [lg_entry_eq]
  generalize (lg_sl ([.ref h_x, .ref h_bef, .int p1, .int p2]) ++ List.replicate (4 - (lg_sl ([.ref h_x, .ref h_bef, .int p1, .int p2])).length) Slot.unset).toArray = ls at hl ⊢
  have hl : lv_has ls 4 [(0, .ref h_x), (1, .ref h_bef), (2, .int p1), (3, .int p2)] := hl
  obtain ⟨QQ, hQQ⟩ : ∃ Z, Z = MQ below (vp_Si (fun z => z = r)) ([.ref h_x, .ref h_bef, .int p1, .int p2] : List Value).toArray s 0 0 (fun _ => False) := ⟨_, rfl⟩
  rw [← hQQ]
  unfold fX4_isInterlocked at h
  refine lv_iload_n hx hb dX4_isInterlocked_0 rfl (lv_at hl 2 rfl) ?_
  by_cases c1 : p1 = 0
  · have h := it_t h c1
    refine lv_tableIn (tgt := 36) hx hb dX4_isInterlocked_1 (by rw [c1]; decide) (by rw [c1]; decide) (by rw [c1]; rfl) (by decide) ?_
    refine lv_aload_n hx hb dX4_isInterlocked_36 rfl (lv_at hl 0 rfl) ?_
    refine lv_aload_n hx hb dX4_isInterlocked_37 rfl (lv_at hl 1 rfl) ?_
    refine lv_iload_n hx hb dX4_isInterlocked_38 rfl (lv_at hl 3 rfl) ?_
    obtain ⟨v2, hq3, h⟩ := bd1_e h
    refine zz_cV (As := [.ref h_bef, .int p2]) ⟨hx, hb, hml, hown, hts⟩ (kX4_breaksLoad l D cI cZ cL h_x a_now a_don a_wri a_per a_tho h_net h_ends h_bef h_aft nc sc br so lo ends bc be bo ac ae ao p2 N hq3) (cwV 2 hts gX4_isInterlocked_X4_breaksLoad rfl rfl rfl (by decide +kernel) ⟨Nat.le_of_ble_eq_true rfl, Nat.le_of_ble_eq_true rfl⟩) (hP.sub (ws' := [(h_x, .inr (4, [.ref h_net, .ref a_now, .ref a_don, .ref a_wri, .ref a_per, .ref a_tho, .ref h_aft])), (h_net, .inr (1, [.ref h_ends, .int nc, .int sc, .int br, .int so, .int lo])), (h_ends, .inl (cI, 24, .inl ends)), (h_bef, .inr (3, [.int bc, .int be, .int bo])), (h_aft, .inr (3, [.int ac, .int ae, .int ao]))]) [0, 1, 2, 3, 4] rfl) hKK (va_recv hK hP (ci := 4) (q0 := 0) rfl rfl) rfl hl.1 rfl (Nat.le_of_ble_eq_true rfl) dX4_isInterlocked_39 ⟨Nat.le_of_ble_eq_true rfl, Nat.le_of_ble_eq_true rfl⟩ ?_
    obtain ⟨hz, h⟩ := gd_e h
    rw [hQQ]
    exact W.zret (v := v2) hx hb hr (bz_e hz) (fun t ht hW => ⟨_, rfl, Option.some.inj h, ht⟩) (fun q hq => absurd hq List.not_mem_nil) dX4_isInterlocked_42
  have h := it_f h c1
  by_cases c4 : p1 = 1
  · have h := it_t h c4
    refine lv_tableIn (tgt := 43) hx hb dX4_isInterlocked_1 (by rw [c4]; decide) (by rw [c4]; decide) (by rw [c4]; rfl) (by decide) ?_
    refine lv_aload_n hx hb dX4_isInterlocked_43 rfl (lv_at hl 0 rfl) ?_
    refine lv_aload_n hx hb dX4_isInterlocked_44 rfl (lv_at hl 1 rfl) ?_
    refine lv_iload_n hx hb dX4_isInterlocked_45 rfl (lv_at hl 3 rfl) ?_
    obtain ⟨v5, hq6, h⟩ := bd1_e h
    refine zz_cV (As := [.ref h_bef, .int p2]) ⟨hx, hb, hml, hown, hts⟩ (kX4_joinsLiveAndEarthed l D cI cZ cL h_x a_now a_don a_wri a_per a_tho h_aft h_net h_ends h_bef nc sc br so lo ends bc be bo p2 N hq6) (cwV 2 hts gX4_isInterlocked_X4_joinsLiveAndEarthed rfl rfl rfl (by decide +kernel) ⟨Nat.le_of_ble_eq_true rfl, Nat.le_of_ble_eq_true rfl⟩) (hP.sub (ws' := [(h_x, .inr (4, [.ref h_net, .ref a_now, .ref a_don, .ref a_wri, .ref a_per, .ref a_tho, .ref h_aft])), (h_net, .inr (1, [.ref h_ends, .int nc, .int sc, .int br, .int so, .int lo])), (h_ends, .inl (cI, 24, .inl ends)), (h_bef, .inr (3, [.int bc, .int be, .int bo]))]) [0, 1, 2, 3] rfl) hKK (va_recv hK hP (ci := 4) (q0 := 0) rfl rfl) rfl hl.1 rfl (Nat.le_of_ble_eq_true rfl) dX4_isInterlocked_46 ⟨Nat.le_of_ble_eq_true rfl, Nat.le_of_ble_eq_true rfl⟩ ?_
    refine lv_if_ne (tgt := 61) hx hb dX4_isInterlocked_49 (by decide) (fun c7 => ?_) (fun c7 => ?_)
    · have h := it_f h c7
      refine lv_iconst (v := 1) hx hb dX4_isInterlocked_61 (by decide) ?_
      refine lv_goto (tgt := 66) hx hb dX4_isInterlocked_62 (by decide) ?_
      rw [hQQ]
      exact W.zret (v := 1) hx hb hr (by decide) (fun t ht hW => ⟨_, rfl, Option.some.inj h, ht⟩) (fun q hq => absurd hq List.not_mem_nil) dX4_isInterlocked_66
    · have h := it_t h c7
      refine lv_aload_n hx hb dX4_isInterlocked_52 rfl (lv_at hl 0 rfl) ?_
      refine lv_aload_n hx hb dX4_isInterlocked_53 rfl (lv_at hl 1 rfl) ?_
      refine lv_iload_n hx hb dX4_isInterlocked_54 rfl (lv_at hl 3 rfl) ?_
      obtain ⟨v8, hq9, h⟩ := bd1_e h
      refine zz_cV (As := [.ref h_bef, .int p2]) ⟨hx, hb, hml, hown, hts⟩ (kX4_makesLoad l D cI cZ cL h_x a_now a_don a_wri a_per a_tho h_net h_ends h_bef h_aft nc sc br so lo ends bc be bo ac ae ao p2 N hq9) (cwV 2 hts gX4_isInterlocked_X4_makesLoad rfl rfl rfl (by decide +kernel) ⟨Nat.le_of_ble_eq_true rfl, Nat.le_of_ble_eq_true rfl⟩) (hP.sub (ws' := [(h_x, .inr (4, [.ref h_net, .ref a_now, .ref a_don, .ref a_wri, .ref a_per, .ref a_tho, .ref h_aft])), (h_net, .inr (1, [.ref h_ends, .int nc, .int sc, .int br, .int so, .int lo])), (h_ends, .inl (cI, 24, .inl ends)), (h_bef, .inr (3, [.int bc, .int be, .int bo])), (h_aft, .inr (3, [.int ac, .int ae, .int ao]))]) [0, 1, 2, 3, 4] rfl) hKK (va_recv hK hP (ci := 4) (q0 := 0) rfl rfl) rfl hl.1 rfl (Nat.le_of_ble_eq_true rfl) dX4_isInterlocked_55 ⟨Nat.le_of_ble_eq_true rfl, Nat.le_of_ble_eq_true rfl⟩ ?_
      refine lv_if_eq (tgt := 65) hx hb dX4_isInterlocked_58 (by decide) (fun c10 => ?_) (fun c10 => ?_)
      · have h := it_t h c10
        refine lv_iconst (v := 0) hx hb dX4_isInterlocked_65 (by decide) ?_
        rw [hQQ]
        exact W.zret (v := 0) hx hb hr (by decide) (fun t ht hW => ⟨_, rfl, Option.some.inj h, ht⟩) (fun q hq => absurd hq List.not_mem_nil) dX4_isInterlocked_66
      · have h := it_f h c10
        refine lv_iconst (v := 1) hx hb dX4_isInterlocked_61 (by decide) ?_
        refine lv_goto (tgt := 66) hx hb dX4_isInterlocked_62 (by decide) ?_
        rw [hQQ]
        exact W.zret (v := 1) hx hb hr (by decide) (fun t ht hW => ⟨_, rfl, Option.some.inj h, ht⟩) (fun q hq => absurd hq List.not_mem_nil) dX4_isInterlocked_66
  have h := it_f h c4
  by_cases c11 : p1 = 2
  · have h := it_t h c11
    refine lv_tableIn (tgt := 67) hx hb dX4_isInterlocked_1 (by rw [c11]; decide) (by rw [c11]; decide) (by rw [c11]; rfl) (by decide) ?_
    refine lv_aload_n hx hb dX4_isInterlocked_67 rfl (lv_at hl 0 rfl) ?_
    refine va_get (D := D) (ci := 4) (v := .ref h_net) (C := RX4) (T := TX4) (N := 7) hx hb hts inX4_isInterlocked_X4 hown hK hP 0 rfl rfl 0 (by decide) (hts _ lkX4_isInterlocked_0) (fun _ h9 => h9) rfl dX4_isInterlocked_68 ?_
    refine lv_aload_n hx hb dX4_isInterlocked_71 rfl (lv_at hl 1 rfl) ?_
    obtain ⟨v12, hq13, h⟩ := bd1_e h
    refine zz_cV (As := [.ref h_bef]) ⟨hx, hb, hml, hown, hts⟩ (kX1_liveNodes l D cI cZ cL h_net h_ends h_bef nc sc br so lo ends bc be bo N hq13) (cwV 1 hts gX4_isInterlocked_X1_liveNodes rfl rfl rfl (by decide +kernel) ⟨Nat.le_of_ble_eq_true rfl, Nat.le_of_ble_eq_true rfl⟩) (hP.sub (ws' := [(h_net, .inr (1, [.ref h_ends, .int nc, .int sc, .int br, .int so, .int lo])), (h_ends, .inl (cI, 24, .inl ends)), (h_bef, .inr (3, [.int bc, .int be, .int bo]))]) [1, 2, 3] rfl) hKK (va_recv hK hP (ci := 1) (q0 := 1) rfl rfl) rfl hl.1 rfl (Nat.le_of_ble_eq_true rfl) dX4_isInterlocked_72 ⟨Nat.le_of_ble_eq_true rfl, Nat.le_of_ble_eq_true rfl⟩ ?_
    refine lv_iload_n hx hb dX4_isInterlocked_75 rfl (lv_at hl 3 rfl) ?_
    refine lv_ishr hx hb dX4_isInterlocked_76 ?_
    refine lv_iconst (v := 1) hx hb dX4_isInterlocked_77 (by decide) ?_
    refine lv_iand hx hb dX4_isInterlocked_78 ?_
    refine lv_if_eq (tgt := 86) hx hb dX4_isInterlocked_79 (by decide) (fun c14 => ?_) (fun c14 => ?_)
    · have h := it_t h c14
      refine lv_iconst (v := 0) hx hb dX4_isInterlocked_86 (by decide) ?_
      rw [hQQ]
      exact W.zret (v := 0) hx hb hr (by decide) (fun t ht hW => ⟨_, rfl, Option.some.inj h, ht⟩) (fun q hq => absurd hq List.not_mem_nil) dX4_isInterlocked_87
    · have h := it_f h c14
      refine lv_iconst (v := 1) hx hb dX4_isInterlocked_82 (by decide) ?_
      refine lv_goto (tgt := 87) hx hb dX4_isInterlocked_83 (by decide) ?_
      rw [hQQ]
      exact W.zret (v := 1) hx hb hr (by decide) (fun t ht hW => ⟨_, rfl, Option.some.inj h, ht⟩) (fun q hq => absurd hq List.not_mem_nil) dX4_isInterlocked_87
  have h := it_f h c11
  by_cases c15 : p1 = 3
  · have h := it_t h c15
    refine lv_tableIn (tgt := 109) hx hb dX4_isInterlocked_1 (by rw [c15]; decide) (by rw [c15]; decide) (by rw [c15]; rfl) (by decide) ?_
    refine lv_iconst (v := 0) hx hb dX4_isInterlocked_109 (by decide) ?_
    rw [hQQ]
    exact W.zret (v := 0) hx hb hr (by decide) (fun t ht hW => ⟨_, rfl, Option.some.inj h, ht⟩) (fun q hq => absurd hq List.not_mem_nil) dX4_isInterlocked_110
  have h := it_f h c15
  by_cases c16 : p1 = 4
  · have h := it_t h c16
    refine lv_tableIn (tgt := 88) hx hb dX4_isInterlocked_1 (by rw [c16]; decide) (by rw [c16]; decide) (by rw [c16]; rfl) (by decide) ?_
    refine lv_aload_n hx hb dX4_isInterlocked_88 rfl (lv_at hl 0 rfl) ?_
    refine va_get (D := D) (ci := 4) (v := .ref h_net) (C := RX4) (T := TX4) (N := 7) hx hb hts inX4_isInterlocked_X4 hown hK hP 0 rfl rfl 0 (by decide) (hts _ lkX4_isInterlocked_0) (fun _ h9 => h9) rfl dX4_isInterlocked_89 ?_
    refine lv_aload_n hx hb dX4_isInterlocked_92 rfl (lv_at hl 1 rfl) ?_
    obtain ⟨v17, hq18, h⟩ := bd1_e h
    refine zz_cV (As := [.ref h_bef]) ⟨hx, hb, hml, hown, hts⟩ (kX1_earthedNodes l D cI cZ cL h_net h_ends h_bef nc sc br so lo ends bc be bo N hq18) (cwV 1 hts gX4_isInterlocked_X1_earthedNodes rfl rfl rfl (by decide +kernel) ⟨Nat.le_of_ble_eq_true rfl, Nat.le_of_ble_eq_true rfl⟩) (hP.sub (ws' := [(h_net, .inr (1, [.ref h_ends, .int nc, .int sc, .int br, .int so, .int lo])), (h_ends, .inl (cI, 24, .inl ends)), (h_bef, .inr (3, [.int bc, .int be, .int bo]))]) [1, 2, 3] rfl) hKK (va_recv hK hP (ci := 1) (q0 := 1) rfl rfl) rfl hl.1 rfl (Nat.le_of_ble_eq_true rfl) dX4_isInterlocked_93 ⟨Nat.le_of_ble_eq_true rfl, Nat.le_of_ble_eq_true rfl⟩ ?_
    refine lv_iload_n hx hb dX4_isInterlocked_96 rfl (lv_at hl 3 rfl) ?_
    refine lv_ishr hx hb dX4_isInterlocked_97 ?_
    refine lv_iconst (v := 1) hx hb dX4_isInterlocked_98 (by decide) ?_
    refine lv_iand hx hb dX4_isInterlocked_99 ?_
    refine lv_if_eq (tgt := 107) hx hb dX4_isInterlocked_100 (by decide) (fun c19 => ?_) (fun c19 => ?_)
    · have h := it_t h c19
      refine lv_iconst (v := 0) hx hb dX4_isInterlocked_107 (by decide) ?_
      rw [hQQ]
      exact W.zret (v := 0) hx hb hr (by decide) (fun t ht hW => ⟨_, rfl, Option.some.inj h, ht⟩) (fun q hq => absurd hq List.not_mem_nil) dX4_isInterlocked_108
    · have h := it_f h c19
      refine lv_iconst (v := 1) hx hb dX4_isInterlocked_103 (by decide) ?_
      refine lv_goto (tgt := 108) hx hb dX4_isInterlocked_104 (by decide) ?_
      rw [hQQ]
      exact W.zret (v := 1) hx hb hr (by decide) (fun t ht hW => ⟨_, rfl, Option.some.inj h, ht⟩) (fun q hq => absurd hq List.not_mem_nil) dX4_isInterlocked_108
  have h := it_f h c16
  have ec1 := lv_neT c1 (a := 0) (by decide)
  have ec4 := lv_neT c4 (a := 1) (by decide)
  have ec11 := lv_neT c11 (a := 2) (by decide)
  have ec15 := lv_neT c15 (a := 3) (by decide)
  have ec16 := lv_neT c16 (a := 4) (by decide)
  refine lv_tableOut (tgt := 109) hx hb dX4_isInterlocked_1 (by omega) (by decide) ?_
  refine lv_iconst (v := 0) hx hb dX4_isInterlocked_109 (by decide) ?_
  rw [hQQ]
  exact W.zret (v := 0) hx hb hr (by decide) (fun t ht hW => ⟨_, rfl, Option.some.inj h, ht⟩) (fun q hq => absurd hq List.not_mem_nil) dX4_isInterlocked_110

def fX4_canBeHeld (N : Nat) (nc : Int32) (sc : Int32) (br : Int32) (so : Int32) (lo : Int32) (ends : Nat → Int32) (cl : Int32) (ea : Int32) (on : Int32) (pg : Int32) (hol : Nat → Int32) (p0 : Int32) : Option ((Int32)) :=
  bd1 (fX4_areSafe N nc sc br so lo ends cl ea on p0) (fun v1 => (if v1 = 0 then some 0 else bd1 (fX2_heldNodes N pg hol) (fun v4 => (if (p0 &&& v4) = 0 then some 1 else some 0))))
set_option maxRecDepth 100000 in
theorem inX4_canBeHeld_X4 : ∀ w ∈ wsX40, w ∈ wsX4_canBeHeld := by decide +kernel
set_option maxRecDepth 100000 in
theorem lkX4_canBeHeld_0 : (.fieldLink RX4 19 "Switchlog" "now" "LSwitchlog$State;" : Cond) ∈ wsX4_canBeHeld := by decide +kernel
set_option maxRecDepth 100000 in
theorem lkX4_canBeHeld_1 : (.fieldLink RX4 38 "Switchlog" "permits" "LSwitchlog$Permits;" : Cond) ∈ wsX4_canBeHeld := by decide +kernel
abbrev rmX4_canBeHeld : Room := { frames := 3, cells := 0, slots := 0, locals := 70 }
set_option maxHeartbeats 4000000 in
set_option maxRecDepth 100000 in
theorem kX4_canBeHeld (l : Launch) (D : va_G) (cI cZ cL : ClassId) (h_x a_don a_wri a_tho a_aft h_net h_ends h_now h_per h_hol : Nat) (nc : Int32) (sc : Int32) (br : Int32) (so : Int32) (lo : Int32) (ends : Nat → Int32) (cl : Int32) (ea : Int32) (on : Int32) (pg : Int32) (hol : Nat → Int32) (p0 : Int32) (N : Nat) {r : Int32} (h : fX4_canBeHeld N nc sc br so lo ends cl ea on pg hol p0 = some r) : Met l yX4_canBeHeld wsX4_canBeHeld rmX4_canBeHeld (PR D cI cZ cL [.ref h_x, .int p0] [(h_x, .inr (4, [.ref h_net, .ref h_now, .ref a_don, .ref a_wri, .ref h_per, .ref a_tho, .ref a_aft])), (h_net, .inr (1, [.ref h_ends, .int nc, .int sc, .int br, .int so, .int lo])), (h_ends, .inl (cI, 24, .inl ends)), (h_now, .inr (3, [.int cl, .int ea, .int on])), (h_per, .inr (2, [.ref h_hol, .int pg])), (h_hol, .inl (cI, 10, .inl hol))]) (vp_Si (fun z => z = r)) 0 0 (fun _ => False) := by
  refine Met.ofW (cc := cX4_canBeHeld) (maxL := 2) (ret := (some .boolean)) (by decide) rfl ?_
  intro p e s m args below meth c s₁ B hml hv
  obtain ⟨rfl, hP, hKK⟩ := hv
  have hK := hKK.1
  have hx := B.exec
  have hb := B.bytes
  have hr := B.returns
  have hts := atoms_spec (ws := wsX4_canBeHeld) B.pre
  have hown : s.vm.findClass RX4 = some m.cls := findClass_of_methodNamed B.named
  have hlocks := B.notSynchronized
  have hl := lv_entry ([.ref h_x, .int p0]) (n := 2) (Nat.le_of_ble_eq_true rfl)
  rw [lg_entry_eq]
  generalize (lg_sl ([.ref h_x, .int p0]) ++ List.replicate (2 - (lg_sl ([.ref h_x, .int p0])).length) Slot.unset).toArray = ls at hl ⊢
  have hl : lv_has ls 2 [(0, .ref h_x), (1, .int p0)] := hl
  obtain ⟨QQ, hQQ⟩ : ∃ Z, Z = MQ below (vp_Si (fun z => z = r)) ([.ref h_x, .int p0] : List Value).toArray s 0 0 (fun _ => False) := ⟨_, rfl⟩
  rw [← hQQ]
  unfold fX4_canBeHeld at h
  refine lv_aload_n hx hb dX4_canBeHeld_0 rfl (lv_at hl 0 rfl) ?_
  refine lv_iload_n hx hb dX4_canBeHeld_1 rfl (lv_at hl 1 rfl) ?_
  refine lv_aload_n hx hb dX4_canBeHeld_2 rfl (lv_at hl 0 rfl) ?_
  refine va_get (D := D) (ci := 4) (v := .ref h_now) (C := RX4) (T := TX4) (N := 7) hx hb hts inX4_canBeHeld_X4 hown hK hP 0 rfl rfl 1 (by decide) (hts _ lkX4_canBeHeld_0) (fun _ h9 => h9) rfl dX4_canBeHeld_3 ?_
  obtain ⟨v1, hq2, h⟩ := bd1_e h
  refine zz_cV (As := [.int p0, .ref h_now]) ⟨hx, hb, hml, hown, hts⟩ (kX4_areSafe l D cI cZ cL h_x h_now a_don a_wri h_per a_tho a_aft h_net h_ends h_now nc sc br so lo ends cl ea on p0 N hq2) (cwV 2 hts gX4_canBeHeld_X4_areSafe rfl rfl rfl (by decide +kernel) ⟨Nat.le_of_ble_eq_true rfl, Nat.le_of_ble_eq_true rfl⟩) (hP.sub (ws' := [(h_x, .inr (4, [.ref h_net, .ref h_now, .ref a_don, .ref a_wri, .ref h_per, .ref a_tho, .ref a_aft])), (h_net, .inr (1, [.ref h_ends, .int nc, .int sc, .int br, .int so, .int lo])), (h_ends, .inl (cI, 24, .inl ends)), (h_now, .inr (3, [.int cl, .int ea, .int on]))]) [0, 1, 2, 3] rfl) hKK (va_recv hK hP (ci := 4) (q0 := 0) rfl rfl) rfl hl.1 rfl (Nat.le_of_ble_eq_true rfl) dX4_canBeHeld_6 ⟨Nat.le_of_ble_eq_true rfl, Nat.le_of_ble_eq_true rfl⟩ ?_
  refine lv_if_eq (tgt := 28) hx hb dX4_canBeHeld_9 (by decide) (fun c3 => ?_) (fun c3 => ?_)
  · have h := it_t h c3
    refine lv_iconst (v := 0) hx hb dX4_canBeHeld_28 (by decide) ?_
    rw [hQQ]
    exact W.zret (v := 0) hx hb hr (by decide) (fun t ht hW => ⟨_, rfl, Option.some.inj h, ht⟩) (fun q hq => absurd hq List.not_mem_nil) dX4_canBeHeld_29
  · have h := it_f h c3
    refine lv_iload_n hx hb dX4_canBeHeld_12 rfl (lv_at hl 1 rfl) ?_
    refine lv_aload_n hx hb dX4_canBeHeld_13 rfl (lv_at hl 0 rfl) ?_
    refine va_get (D := D) (ci := 4) (v := .ref h_per) (C := RX4) (T := TX4) (N := 7) hx hb hts inX4_canBeHeld_X4 hown hK hP 0 rfl rfl 4 (by decide) (hts _ lkX4_canBeHeld_1) (fun _ h9 => h9) rfl dX4_canBeHeld_14 ?_
    obtain ⟨v4, hq5, h⟩ := bd1_e h
    refine zz_cV (As := []) ⟨hx, hb, hml, hown, hts⟩ (kX2_heldNodes l D cI cZ cL h_per h_hol pg hol N hq5) (cwV 0 hts gX4_canBeHeld_X2_heldNodes rfl rfl rfl (by decide +kernel) ⟨Nat.le_of_ble_eq_true rfl, Nat.le_of_ble_eq_true rfl⟩) (hP.sub (ws' := [(h_per, .inr (2, [.ref h_hol, .int pg])), (h_hol, .inl (cI, 10, .inl hol))]) [4, 5] rfl) hKK (va_recv hK hP (ci := 2) (q0 := 4) rfl rfl) rfl hl.1 rfl (Nat.le_of_ble_eq_true rfl) dX4_canBeHeld_17 ⟨Nat.le_of_ble_eq_true rfl, Nat.le_of_ble_eq_true rfl⟩ ?_
    refine lv_iand hx hb dX4_canBeHeld_20 ?_
    refine lv_if_ne (tgt := 28) hx hb dX4_canBeHeld_21 (by decide) (fun c6 => ?_) (fun c6 => ?_)
    · have h := it_f h c6
      refine lv_iconst (v := 0) hx hb dX4_canBeHeld_28 (by decide) ?_
      rw [hQQ]
      exact W.zret (v := 0) hx hb hr (by decide) (fun t ht hW => ⟨_, rfl, Option.some.inj h, ht⟩) (fun q hq => absurd hq List.not_mem_nil) dX4_canBeHeld_29
    · have h := it_t h c6
      refine lv_iconst (v := 1) hx hb dX4_canBeHeld_24 (by decide) ?_
      refine lv_goto (tgt := 29) hx hb dX4_canBeHeld_25 (by decide) ?_
      rw [hQQ]
      exact W.zret (v := 1) hx hb hr (by decide) (fun t ht hW => ⟨_, rfl, Option.some.inj h, ht⟩) (fun q hq => absurd hq List.not_mem_nil) dX4_canBeHeld_29

def fX4_reasonIn (N : Nat) (nc : Int32) (sc : Int32) (br : Int32) (so : Int32) (lo : Int32) (ends : Nat → Int32) (pg : Int32) (hol : Nat → Int32) (bc : Int32) (be : Int32) (bo : Int32) (ac : Int32) (ae : Int32) (ao : Int32) (p1 : Int32) (p2 : Int32) : Option ((Int32) × (Int32) × (Int32) × (Int32)) :=
  bd1 (fX4_isAlreadySo N nc sc br so lo bc be bo p1 p2) (fun v1 => (if v1 = 0 then bd1 (fX4_touchedNodes N nc sc br so lo ends p1 p2) (fun v4 => bd1 (fX2_heldNodes N pg hol) (fun v6 => (if (v4 &&& v6) = 0 then bd3 (fX3_copyFrom N ac ae ao bc be bo) (fun w10 w11 w12 => bd3 (fX3_flip N w10 w11 w12 p1 p2) (fun w14 w15 w16 => bd1 (fX4_isInterlocked N nc sc br so lo ends bc be bo w14 w15 w16 p1 p2) (fun v17 => (if v17 = 0 then bd1 (fX2_heldNodes N pg hol) (fun v20 => bd1 (fX4_areSafe N nc sc br so lo ends w14 w15 w16 v20) (fun v22 => (if v22 = 0 then some (4, w14, w15, w16) else some (0, w14, w15, w16)))) else some (3, w14, w15, w16))))) else some (2, ac, ae, ao)))) else some (1, ac, ae, ao)))
set_option maxRecDepth 100000 in
theorem inX4_reasonIn_X4 : ∀ w ∈ wsX40, w ∈ wsX4_reasonIn := by decide +kernel
set_option maxRecDepth 100000 in
theorem lkX4_reasonIn_0 : (.fieldLink RX4 38 "Switchlog" "permits" "LSwitchlog$Permits;" : Cond) ∈ wsX4_reasonIn := by decide +kernel
set_option maxRecDepth 100000 in
theorem lkX4_reasonIn_1 : (.fieldLink RX4 45 "Switchlog" "after" "LSwitchlog$State;" : Cond) ∈ wsX4_reasonIn := by decide +kernel
abbrev rmX4_reasonIn : Room := { frames := 4, cells := 0, slots := 0, locals := 96 }
set_option maxHeartbeats 4000000 in
set_option maxRecDepth 100000 in
theorem kX4_reasonIn (l : Launch) (D : va_G) (cI cZ cL : ClassId) (sz0 : Nat) (h_x a_now a_don a_wri a_tho h_net h_ends h_per h_hol h_bef h_aft : Nat) (nc : Int32) (sc : Int32) (br : Int32) (so : Int32) (lo : Int32) (ends : Nat → Int32) (pg : Int32) (hol : Nat → Int32) (bc : Int32) (be : Int32) (bo : Int32) (ac : Int32) (ae : Int32) (ao : Int32) (p1 : Int32) (p2 : Int32) (N : Nat) {r : Int32} {r_0 : Int32} {r_1 : Int32} {r_2 : Int32} (h : fX4_reasonIn N nc sc br so lo ends pg hol bc be bo ac ae ao p1 p2 = some (r, r_0, r_1, r_2)) : Met l yX4_reasonIn wsX4_reasonIn rmX4_reasonIn (PM D cI cZ cL [.ref h_x, .ref h_bef, .int p1, .int p2] [(h_x, .inr (4, [.ref h_net, .ref a_now, .ref a_don, .ref a_wri, .ref h_per, .ref a_tho, .ref h_aft])), (h_net, .inr (1, [.ref h_ends, .int nc, .int sc, .int br, .int so, .int lo])), (h_ends, .inl (cI, 24, .inl ends)), (h_per, .inr (2, [.ref h_hol, .int pg])), (h_hol, .inl (cI, 10, .inl hol)), (h_bef, .inr (3, [.int bc, .int be, .int bo])), (h_aft, .inr (3, [.int ac, .int ae, .int ao]))] sz0) (QM D (some (.int r)) (va_A [(h_x, .inr (4, [.ref h_net, .ref a_now, .ref a_don, .ref a_wri, .ref h_per, .ref a_tho, .ref h_aft])), (h_net, .inr (1, [.ref h_ends, .int nc, .int sc, .int br, .int so, .int lo])), (h_ends, .inl (cI, 24, .inl ends)), (h_per, .inr (2, [.ref h_hol, .int pg])), (h_hol, .inl (cI, 10, .inl hol)), (h_bef, .inr (3, [.int bc, .int be, .int bo])), (h_aft, .inr (3, [.int ac, .int ae, .int ao]))] sz0) [(h_x, .inr (4, [.ref h_net, .ref a_now, .ref a_don, .ref a_wri, .ref h_per, .ref a_tho, .ref h_aft])), (h_net, .inr (1, [.ref h_ends, .int nc, .int sc, .int br, .int so, .int lo])), (h_ends, .inl (cI, 24, .inl ends)), (h_per, .inr (2, [.ref h_hol, .int pg])), (h_hol, .inl (cI, 10, .inl hol)), (h_bef, .inr (3, [.int bc, .int be, .int bo])), (h_aft, .inr (3, [.int r_0, .int r_1, .int r_2]))]) 0 0 (va_A [(h_x, .inr (4, [.ref h_net, .ref a_now, .ref a_don, .ref a_wri, .ref h_per, .ref a_tho, .ref h_aft])), (h_net, .inr (1, [.ref h_ends, .int nc, .int sc, .int br, .int so, .int lo])), (h_ends, .inl (cI, 24, .inl ends)), (h_per, .inr (2, [.ref h_hol, .int pg])), (h_hol, .inl (cI, 10, .inl hol)), (h_bef, .inr (3, [.int bc, .int be, .int bo])), (h_aft, .inr (3, [.int ac, .int ae, .int ao]))] sz0) := by
  refine Met.ofW (cc := cX4_reasonIn) (maxL := 4) (ret := (some .int)) (by decide) rfl ?_
  intro p e s m args below meth c s₁ B hml hv
  obtain ⟨rfl, hsz, hP, hKK, hD0⟩ := hv
  have hK := hKK.1
  have hx := B.exec
  have hb := B.bytes
  have hr := B.returns
  have hts := atoms_spec (ws := wsX4_reasonIn) B.pre
  have hown : s.vm.findClass RX4 = some m.cls := findClass_of_methodNamed B.named
  have hlocks := B.notSynchronized
  subst hsz
  have hD := hD0.self (sz := s.heap.size)
  generalize hAe : va_A [(h_x, .inr (4, [.ref h_net, .ref a_now, .ref a_don, .ref a_wri, .ref h_per, .ref a_tho, .ref h_aft])), (h_net, .inr (1, [.ref h_ends, .int nc, .int sc, .int br, .int so, .int lo])), (h_ends, .inl (cI, 24, .inl ends)), (h_per, .inr (2, [.ref h_hol, .int pg])), (h_hol, .inl (cI, 10, .inl hol)), (h_bef, .inr (3, [.int bc, .int be, .int bo])), (h_aft, .inr (3, [.int ac, .int ae, .int ao]))] s.heap.size = A at hD ⊢
  have hA : ∀ q : Nat, s.heap.size ≤ q → A q := fun q h => by rw [← hAe]; exact Or.inr h
  have hS : va_S A s.heap s.heap [] := va_S.rf
  have hl := lv_entry ([.ref h_x, .ref h_bef, .int p1, .int p2]) (n := 4) (Nat.le_of_ble_eq_true rfl)
  rw [lg_entry_eq]
  generalize (lg_sl ([.ref h_x, .ref h_bef, .int p1, .int p2]) ++ List.replicate (4 - (lg_sl ([.ref h_x, .ref h_bef, .int p1, .int p2])).length) Slot.unset).toArray = ls at hl ⊢
  have hl : lv_has ls 4 [(0, .ref h_x), (1, .ref h_bef), (2, .int p1), (3, .int p2)] := hl
  obtain ⟨QQ, hQQ⟩ : ∃ Z, Z = MQ below (QM D (some (.int r)) A [(h_x, .inr (4, [.ref h_net, .ref a_now, .ref a_don, .ref a_wri, .ref h_per, .ref a_tho, .ref h_aft])), (h_net, .inr (1, [.ref h_ends, .int nc, .int sc, .int br, .int so, .int lo])), (h_ends, .inl (cI, 24, .inl ends)), (h_per, .inr (2, [.ref h_hol, .int pg])), (h_hol, .inl (cI, 10, .inl hol)), (h_bef, .inr (3, [.int bc, .int be, .int bo])), (h_aft, .inr (3, [.int r_0, .int r_1, .int r_2]))]) ([.ref h_x, .ref h_bef, .int p1, .int p2] : List Value).toArray s 0 0 A := ⟨_, rfl⟩
  rw [← hQQ]
  obtain ⟨H, locs, hHe, hLe⟩ : ∃ (H : Heap) (locs : List Loc), H = s.heap ∧ locs = [] := ⟨_, _, rfl, rfl⟩
  have hP : va_P D vwCl [(h_x, .inr (4, [.ref h_net, .ref a_now, .ref a_don, .ref a_wri, .ref h_per, .ref a_tho, .ref h_aft])), (h_net, .inr (1, [.ref h_ends, .int nc, .int sc, .int br, .int so, .int lo])), (h_ends, .inl (cI, 24, .inl ends)), (h_per, .inr (2, [.ref h_hol, .int pg])), (h_hol, .inl (cI, 10, .inl hol)), (h_bef, .inr (3, [.int bc, .int be, .int bo])), (h_aft, .inr (3, [.int ac, .int ae, .int ao]))] H := by rw [hHe]; exact hP
  have hS : va_S A s.heap H locs := by rw [hHe, hLe]; exact hS
  have hW0 : ∀ QQ : State → Prop, W p l e (headSpec wsX4_reasonIn rmX4_reasonIn).room s m (([.ref h_x, .ref h_bef, .int p1, .int p2] : List Value).toArray) below meth c H locs 0 0 QQ (F0 m 0 ls []) → W p l e (headSpec wsX4_reasonIn rmX4_reasonIn).room s m (([.ref h_x, .ref h_bef, .int p1, .int p2] : List Value).toArray) below meth c s.heap [] 0 0 QQ (F0 m 0 ls []) := by rw [hHe, hLe]; exact fun _ h => h
  refine hW0 _ ?_
  clear hW0
  unfold fX4_reasonIn at h
  refine lv_aload_n hx hb dX4_reasonIn_0 rfl (lv_at hl 0 rfl) ?_
  refine lv_aload_n hx hb dX4_reasonIn_1 rfl (lv_at hl 1 rfl) ?_
  refine lv_iload_n hx hb dX4_reasonIn_2 rfl (lv_at hl 2 rfl) ?_
  refine lv_iload_n hx hb dX4_reasonIn_3 rfl (lv_at hl 3 rfl) ?_
  obtain ⟨v1, hq2, h⟩ := bd1_e h
  refine zz_cV (As := [.ref h_bef, .int p1, .int p2]) ⟨hx, hb, hml, hown, hts⟩ (kX4_isAlreadySo l D cI cZ cL h_x a_now a_don a_wri h_per a_tho h_aft h_net h_ends h_bef nc sc br so lo bc be bo p1 p2 N hq2) (cwV 3 hts gX4_reasonIn_X4_isAlreadySo rfl rfl rfl (by decide +kernel) ⟨Nat.le_of_ble_eq_true rfl, Nat.le_of_ble_eq_true rfl⟩) (hP.sub (ws' := [(h_x, .inr (4, [.ref h_net, .ref a_now, .ref a_don, .ref a_wri, .ref h_per, .ref a_tho, .ref h_aft])), (h_net, .inr (1, [.ref h_ends, .int nc, .int sc, .int br, .int so, .int lo])), (h_bef, .inr (3, [.int bc, .int be, .int bo]))]) [0, 1, 5] rfl) hKK (va_recv hK hP (ci := 4) (q0 := 0) rfl rfl) rfl hl.1 rfl (Nat.le_of_ble_eq_true rfl) dX4_reasonIn_4 ⟨Nat.le_of_ble_eq_true rfl, Nat.le_of_ble_eq_true rfl⟩ ?_
  refine lv_if_eq (tgt := 12) hx hb dX4_reasonIn_7 (by decide) (fun c3 => ?_) (fun c3 => ?_)
  · have h := it_t h c3
    refine lv_aload_n hx hb dX4_reasonIn_12 rfl (lv_at hl 0 rfl) ?_
    refine lv_iload_n hx hb dX4_reasonIn_13 rfl (lv_at hl 2 rfl) ?_
    refine lv_iload_n hx hb dX4_reasonIn_14 rfl (lv_at hl 3 rfl) ?_
    obtain ⟨v4, hq5, h⟩ := bd1_e h
    refine zz_cV (As := [.int p1, .int p2]) ⟨hx, hb, hml, hown, hts⟩ (kX4_touchedNodes l D cI cZ cL h_x a_now a_don a_wri h_per a_tho h_aft h_net h_ends nc sc br so lo ends p1 p2 N hq5) (cwV 2 hts gX4_reasonIn_X4_touchedNodes rfl rfl rfl (by decide +kernel) ⟨Nat.le_of_ble_eq_true rfl, Nat.le_of_ble_eq_true rfl⟩) (hP.sub (ws' := [(h_x, .inr (4, [.ref h_net, .ref a_now, .ref a_don, .ref a_wri, .ref h_per, .ref a_tho, .ref h_aft])), (h_net, .inr (1, [.ref h_ends, .int nc, .int sc, .int br, .int so, .int lo])), (h_ends, .inl (cI, 24, .inl ends))]) [0, 1, 2] rfl) hKK (va_recv hK hP (ci := 4) (q0 := 0) rfl rfl) rfl hl.1 rfl (Nat.le_of_ble_eq_true rfl) dX4_reasonIn_15 ⟨Nat.le_of_ble_eq_true rfl, Nat.le_of_ble_eq_true rfl⟩ ?_
    refine lv_aload_n hx hb dX4_reasonIn_18 rfl (lv_at hl 0 rfl) ?_
    refine va_get (D := D) (ci := 4) (v := .ref h_per) (C := RX4) (T := TX4) (N := 7) hx hb hts inX4_reasonIn_X4 hown hK hP 0 rfl rfl 4 (by decide) (hts _ lkX4_reasonIn_0) (fun _ h9 => h9) rfl dX4_reasonIn_19 ?_
    obtain ⟨v6, hq7, h⟩ := bd1_e h
    refine zz_cV (As := []) ⟨hx, hb, hml, hown, hts⟩ (kX2_heldNodes l D cI cZ cL h_per h_hol pg hol N hq7) (cwV 0 hts gX4_reasonIn_X2_heldNodes rfl rfl rfl (by decide +kernel) ⟨Nat.le_of_ble_eq_true rfl, Nat.le_of_ble_eq_true rfl⟩) (hP.sub (ws' := [(h_per, .inr (2, [.ref h_hol, .int pg])), (h_hol, .inl (cI, 10, .inl hol))]) [3, 4] rfl) hKK (va_recv hK hP (ci := 2) (q0 := 3) rfl rfl) rfl hl.1 rfl (Nat.le_of_ble_eq_true rfl) dX4_reasonIn_22 ⟨Nat.le_of_ble_eq_true rfl, Nat.le_of_ble_eq_true rfl⟩ ?_
    refine lv_iand hx hb dX4_reasonIn_25 ?_
    refine lv_if_eq (tgt := 31) hx hb dX4_reasonIn_26 (by decide) (fun c8 => ?_) (fun c8 => ?_)
    · have h := it_t h c8
      refine lv_aload_n hx hb dX4_reasonIn_31 rfl (lv_at hl 0 rfl) ?_
      refine va_get (D := D) (ci := 4) (v := .ref h_aft) (C := RX4) (T := TX4) (N := 7) hx hb hts inX4_reasonIn_X4 hown hK hP 0 rfl rfl 6 (by decide) (hts _ lkX4_reasonIn_1) (fun _ h9 => h9) rfl dX4_reasonIn_32 ?_
      refine lv_aload_n hx hb dX4_reasonIn_35 rfl (lv_at hl 1 rfl) ?_
      obtain ⟨w10, w11, w12, hq9, h⟩ := bd3_e h
      refine zz_mV (As := [.ref h_bef]) (wr := [(h_x, .inr (4, [.ref h_net, .ref a_now, .ref a_don, .ref a_wri, .ref h_per, .ref a_tho, .ref h_aft])), (h_net, .inr (1, [.ref h_ends, .int nc, .int sc, .int br, .int so, .int lo])), (h_ends, .inl (cI, 24, .inl ends)), (h_per, .inr (2, [.ref h_hol, .int pg])), (h_hol, .inl (cI, 10, .inl hol))]) (w1 := [(h_aft, .inr (3, [.int w10, .int w11, .int w12])), (h_bef, .inr (3, [.int bc, .int be, .int bo]))]) (wt' := [(h_x, .inr (4, [.ref h_net, .ref a_now, .ref a_don, .ref a_wri, .ref h_per, .ref a_tho, .ref h_aft])), (h_net, .inr (1, [.ref h_ends, .int nc, .int sc, .int br, .int so, .int lo])), (h_ends, .inl (cI, 24, .inl ends)), (h_per, .inr (2, [.ref h_hol, .int pg])), (h_hol, .inl (cI, 10, .inl hol)), (h_bef, .inr (3, [.int bc, .int be, .int bo])), (h_aft, .inr (3, [.int w10, .int w11, .int w12]))]) (wc := [(h_aft, .inr (3, [.int ac, .int ae, .int ao])), (h_bef, .inr (3, [.int bc, .int be, .int bo]))]) (rv := none) ⟨hx, hb, hml, hown, hts⟩ (kX3_copyFrom l D cI cZ cL H.size h_aft h_bef ac ae ao bc be bo N hq9) (cwV 1 hts gX4_reasonIn_X3_copyFrom rfl rfl rfl (by decide +kernel) ⟨Nat.le_of_ble_eq_true rfl, Nat.le_of_ble_eq_true rfl⟩) hP hD hS hA hKK [6, 5] [0, 1, 2, 3, 4] [0, 1, 2, 3, 4, 6, 5] rfl rfl (by decide) (by decide) rfl (by decide) (by decide) (va_recv hK hP (ci := 3) (q0 := 6) rfl rfl) rfl hl.1 rfl (Nat.le_of_ble_eq_true rfl) dX4_reasonIn_36 ⟨Nat.le_of_ble_eq_true rfl, Nat.le_of_ble_eq_true rfl⟩ (fun H locs hP hD hS hz9 => ?_)
      show W p l e _ s m _ below meth c H locs _ _ QQ (F0 m 39 ls [])
      refine lv_aload_n hx hb dX4_reasonIn_39 rfl (lv_at hl 0 rfl) ?_
      refine va_get (D := D) (ci := 4) (v := .ref h_aft) (C := RX4) (T := TX4) (N := 7) hx hb hts inX4_reasonIn_X4 hown hK hP 0 rfl rfl 6 (by decide) (hts _ lkX4_reasonIn_1) (fun _ h9 => h9) rfl dX4_reasonIn_40 ?_
      refine lv_iload_n hx hb dX4_reasonIn_43 rfl (lv_at hl 2 rfl) ?_
      refine lv_iload_n hx hb dX4_reasonIn_44 rfl (lv_at hl 3 rfl) ?_
      obtain ⟨w14, w15, w16, hq13, h⟩ := bd3_e h
      refine zz_mV (As := [.int p1, .int p2]) (wr := [(h_x, .inr (4, [.ref h_net, .ref a_now, .ref a_don, .ref a_wri, .ref h_per, .ref a_tho, .ref h_aft])), (h_net, .inr (1, [.ref h_ends, .int nc, .int sc, .int br, .int so, .int lo])), (h_ends, .inl (cI, 24, .inl ends)), (h_per, .inr (2, [.ref h_hol, .int pg])), (h_hol, .inl (cI, 10, .inl hol)), (h_bef, .inr (3, [.int bc, .int be, .int bo]))]) (w1 := [(h_aft, .inr (3, [.int w14, .int w15, .int w16]))]) (wt' := [(h_x, .inr (4, [.ref h_net, .ref a_now, .ref a_don, .ref a_wri, .ref h_per, .ref a_tho, .ref h_aft])), (h_net, .inr (1, [.ref h_ends, .int nc, .int sc, .int br, .int so, .int lo])), (h_ends, .inl (cI, 24, .inl ends)), (h_per, .inr (2, [.ref h_hol, .int pg])), (h_hol, .inl (cI, 10, .inl hol)), (h_bef, .inr (3, [.int bc, .int be, .int bo])), (h_aft, .inr (3, [.int w14, .int w15, .int w16]))]) (wc := [(h_aft, .inr (3, [.int w10, .int w11, .int w12]))]) (rv := none) ⟨hx, hb, hml, hown, hts⟩ (kX3_flip l D cI cZ cL H.size h_aft w10 w11 w12 p1 p2 N hq13) (cwV 2 hts gX4_reasonIn_X3_flip rfl rfl rfl (by decide +kernel) ⟨Nat.le_of_ble_eq_true rfl, Nat.le_of_ble_eq_true rfl⟩) hP hD hS hA hKK [6] [0, 1, 2, 3, 4, 5] [0, 1, 2, 3, 4, 5, 6] rfl rfl (by decide) (by decide) rfl (by decide) (by decide) (va_recv hK hP (ci := 3) (q0 := 6) rfl rfl) rfl hl.1 rfl (Nat.le_of_ble_eq_true rfl) dX4_reasonIn_45 ⟨Nat.le_of_ble_eq_true rfl, Nat.le_of_ble_eq_true rfl⟩ (fun H locs hP hD hS hz9 => ?_)
      show W p l e _ s m _ below meth c H locs _ _ QQ (F0 m 48 ls [])
      refine lv_aload_n hx hb dX4_reasonIn_48 rfl (lv_at hl 0 rfl) ?_
      refine lv_aload_n hx hb dX4_reasonIn_49 rfl (lv_at hl 1 rfl) ?_
      refine lv_iload_n hx hb dX4_reasonIn_50 rfl (lv_at hl 2 rfl) ?_
      refine lv_iload_n hx hb dX4_reasonIn_51 rfl (lv_at hl 3 rfl) ?_
      obtain ⟨v17, hq18, h⟩ := bd1_e h
      refine zz_cV (As := [.ref h_bef, .int p1, .int p2]) ⟨hx, hb, hml, hown, hts⟩ (kX4_isInterlocked l D cI cZ cL h_x a_now a_don a_wri h_per a_tho h_net h_ends h_bef h_aft nc sc br so lo ends bc be bo w14 w15 w16 p1 p2 N hq18) (cwV 3 hts gX4_reasonIn_X4_isInterlocked rfl rfl rfl (by decide +kernel) ⟨Nat.le_of_ble_eq_true rfl, Nat.le_of_ble_eq_true rfl⟩) (hP.sub (ws' := [(h_x, .inr (4, [.ref h_net, .ref a_now, .ref a_don, .ref a_wri, .ref h_per, .ref a_tho, .ref h_aft])), (h_net, .inr (1, [.ref h_ends, .int nc, .int sc, .int br, .int so, .int lo])), (h_ends, .inl (cI, 24, .inl ends)), (h_bef, .inr (3, [.int bc, .int be, .int bo])), (h_aft, .inr (3, [.int w14, .int w15, .int w16]))]) [0, 1, 2, 5, 6] rfl) hKK (va_recv hK hP (ci := 4) (q0 := 0) rfl rfl) rfl hl.1 rfl (Nat.le_of_ble_eq_true rfl) dX4_reasonIn_52 ⟨Nat.le_of_ble_eq_true rfl, Nat.le_of_ble_eq_true rfl⟩ ?_
      refine lv_if_eq (tgt := 60) hx hb dX4_reasonIn_55 (by decide) (fun c19 => ?_) (fun c19 => ?_)
      · have h := it_t h c19
        refine lv_aload_n hx hb dX4_reasonIn_60 rfl (lv_at hl 0 rfl) ?_
        refine lv_aload_n hx hb dX4_reasonIn_61 rfl (lv_at hl 0 rfl) ?_
        refine va_get (D := D) (ci := 4) (v := .ref h_per) (C := RX4) (T := TX4) (N := 7) hx hb hts inX4_reasonIn_X4 hown hK hP 0 rfl rfl 4 (by decide) (hts _ lkX4_reasonIn_0) (fun _ h9 => h9) rfl dX4_reasonIn_62 ?_
        obtain ⟨v20, hq21, h⟩ := bd1_e h
        refine zz_cV (As := []) ⟨hx, hb, hml, hown, hts⟩ (kX2_heldNodes l D cI cZ cL h_per h_hol pg hol N hq21) (cwV 0 hts gX4_reasonIn_X2_heldNodes rfl rfl rfl (by decide +kernel) ⟨Nat.le_of_ble_eq_true rfl, Nat.le_of_ble_eq_true rfl⟩) (hP.sub (ws' := [(h_per, .inr (2, [.ref h_hol, .int pg])), (h_hol, .inl (cI, 10, .inl hol))]) [3, 4] rfl) hKK (va_recv hK hP (ci := 2) (q0 := 3) rfl rfl) rfl hl.1 rfl (Nat.le_of_ble_eq_true rfl) dX4_reasonIn_65 ⟨Nat.le_of_ble_eq_true rfl, Nat.le_of_ble_eq_true rfl⟩ ?_
        refine lv_aload_n hx hb dX4_reasonIn_68 rfl (lv_at hl 0 rfl) ?_
        refine va_get (D := D) (ci := 4) (v := .ref h_aft) (C := RX4) (T := TX4) (N := 7) hx hb hts inX4_reasonIn_X4 hown hK hP 0 rfl rfl 6 (by decide) (hts _ lkX4_reasonIn_1) (fun _ h9 => h9) rfl dX4_reasonIn_69 ?_
        obtain ⟨v22, hq23, h⟩ := bd1_e h
        refine zz_cV (As := [.int v20, .ref h_aft]) ⟨hx, hb, hml, hown, hts⟩ (kX4_areSafe l D cI cZ cL h_x a_now a_don a_wri h_per a_tho h_aft h_net h_ends h_aft nc sc br so lo ends w14 w15 w16 v20 N hq23) (cwV 2 hts gX4_reasonIn_X4_areSafe rfl rfl rfl (by decide +kernel) ⟨Nat.le_of_ble_eq_true rfl, Nat.le_of_ble_eq_true rfl⟩) (hP.sub (ws' := [(h_x, .inr (4, [.ref h_net, .ref a_now, .ref a_don, .ref a_wri, .ref h_per, .ref a_tho, .ref h_aft])), (h_net, .inr (1, [.ref h_ends, .int nc, .int sc, .int br, .int so, .int lo])), (h_ends, .inl (cI, 24, .inl ends)), (h_aft, .inr (3, [.int w14, .int w15, .int w16]))]) [0, 1, 2, 6] rfl) hKK (va_recv hK hP (ci := 4) (q0 := 0) rfl rfl) rfl hl.1 rfl (Nat.le_of_ble_eq_true rfl) dX4_reasonIn_72 ⟨Nat.le_of_ble_eq_true rfl, Nat.le_of_ble_eq_true rfl⟩ ?_
        refine lv_if_eq (tgt := 82) hx hb dX4_reasonIn_75 (by decide) (fun c24 => ?_) (fun c24 => ?_)
        · have h := it_t h c24
          refine lv_iconst (v := 4) hx hb dX4_reasonIn_82 (by decide) ?_
          cases h
          rw [hQQ]
          exact W.iret hx hb hr (fun t ht hW => ⟨rfl, by rw [ht]; exact hP, hD, hS.F ht⟩) hS.2.2 dX4_reasonIn_83
        · have h := it_f h c24
          refine lv_iconst (v := 0) hx hb dX4_reasonIn_78 (by decide) ?_
          refine lv_goto (tgt := 83) hx hb dX4_reasonIn_79 (by decide) ?_
          cases h
          rw [hQQ]
          exact W.iret hx hb hr (fun t ht hW => ⟨rfl, by rw [ht]; exact hP, hD, hS.F ht⟩) hS.2.2 dX4_reasonIn_83
      · have h := it_f h c19
        refine lv_iconst (v := 3) hx hb dX4_reasonIn_58 (by decide) ?_
        cases h
        rw [hQQ]
        exact W.iret hx hb hr (fun t ht hW => ⟨rfl, by rw [ht]; exact hP, hD, hS.F ht⟩) hS.2.2 dX4_reasonIn_59
    · have h := it_f h c8
      refine lv_iconst (v := 2) hx hb dX4_reasonIn_29 (by decide) ?_
      cases h
      rw [hQQ]
      exact W.iret hx hb hr (fun t ht hW => ⟨rfl, by rw [ht]; exact hP, hD, hS.F ht⟩) hS.2.2 dX4_reasonIn_30
  · have h := it_f h c3
    refine lv_iconst (v := 1) hx hb dX4_reasonIn_10 (by decide) ?_
    cases h
    rw [hQQ]
    exact W.iret hx hb hr (fun t ht hW => ⟨rfl, by rw [ht]; exact hP, hD, hS.F ht⟩) hS.2.2 dX4_reasonIn_11
