def fX4_requireNode (N : Nat) (nc : Int32) (sc : Int32) (br : Int32) (so : Int32) (lo : Int32) (p0 : Int32) : Option (String ⊕ (Unit)) :=
  bd1 (fX1_hasNode N nc sc br so lo p0) (fun v1 => (if v1 = 0 then some (.inl "java/lang/IndexOutOfBoundsException") else some (.inr ())))
set_option maxRecDepth 100000 in
theorem inX4_requireNode_X4 : ∀ w ∈ wsX40, w ∈ wsX4_requireNode := by decide +kernel
set_option maxRecDepth 100000 in
theorem lkX4_requireNode_0 : (.fieldLink RX4 10 "Switchlog" "net" "LSwitchlog$Net;" : Cond) ∈ wsX4_requireNode := by decide +kernel
set_option maxRecDepth 100000 in
theorem lkX4_requireNode_1 : (.classLink RX4 121 "java/lang/IndexOutOfBoundsException" : Cond) ∈ wsX4_requireNode := by decide +kernel
set_option maxRecDepth 100000 in
theorem lkX4_requireNode_2 : (.initialized "java/lang/IndexOutOfBoundsException" : Cond) ∈ wsX4_requireNode := by decide +kernel
set_option maxRecDepth 100000 in
theorem atX4_requireNode_125 : ∀ w ∈ (vx_atS RX4 125 "java/lang/IndexOutOfBoundsException" ["java/lang/RuntimeException", "java/lang/Exception"]).filter goodWord, w ∈ wsX4_requireNode := by decide +kernel
abbrev rmX4_requireNode : Room := { frames := 6, cells := 1, slots := 6, locals := 82 }
set_option maxHeartbeats 4000000 in
set_option maxRecDepth 100000 in
theorem kX4_requireNode (l : Launch) (hl0 : l.stackTraces = false) (D : va_G) (cI cZ cL : ClassId) (sz0 : Nat) (h_x a_now a_don a_wri a_per a_tho a_aft h_net a_ends : Nat) (nc : Int32) (sc : Int32) (br : Int32) (so : Int32) (lo : Int32) (p0 : Int32) (N : Nat) {R : String ⊕ (Unit)} (h : fX4_requireNode N nc sc br so lo p0 = some R) : vx_Met l yX4_requireNode wsX4_requireNode rmX4_requireNode (PT D cI cZ cL [.ref h_x, .int p0] [(h_x, .inr (4, [.ref h_net, .ref a_now, .ref a_don, .ref a_wri, .ref a_per, .ref a_tho, .ref a_aft])), (h_net, .inr (1, [.ref a_ends, .int nc, .int sc, .int br, .int so, .int lo]))] sz0) (QT D (fun _ => none) (va_A [(h_x, .inr (4, [.ref h_net, .ref a_now, .ref a_don, .ref a_wri, .ref a_per, .ref a_tho, .ref a_aft])), (h_net, .inr (1, [.ref a_ends, .int nc, .int sc, .int br, .int so, .int lo]))] sz0) (fun u : Unit => [(h_x, .inr (4, [.ref h_net, .ref a_now, .ref a_don, .ref a_wri, .ref a_per, .ref a_tho, .ref a_aft])), (h_net, .inr (1, [.ref a_ends, .int nc, .int sc, .int br, .int so, .int lo]))]) R) (XT D (va_A [(h_x, .inr (4, [.ref h_net, .ref a_now, .ref a_don, .ref a_wri, .ref a_per, .ref a_tho, .ref a_aft])), (h_net, .inr (1, [.ref a_ends, .int nc, .int sc, .int br, .int so, .int lo]))] sz0) [(h_x, .inr (4, [.ref h_net, .ref a_now, .ref a_don, .ref a_wri, .ref a_per, .ref a_tho, .ref a_aft])), (h_net, .inr (1, [.ref a_ends, .int nc, .int sc, .int br, .int so, .int lo]))] R) 1 6 (va_A [(h_x, .inr (4, [.ref h_net, .ref a_now, .ref a_don, .ref a_wri, .ref a_per, .ref a_tho, .ref a_aft])), (h_net, .inr (1, [.ref a_ends, .int nc, .int sc, .int br, .int so, .int lo]))] sz0) := by
  refine vx_ofW (cc := cX4_requireNode) (maxL := 2) (ret := none) (by decide) rfl ?_
  intro p e s m args below meth c s₁ B hml hno hv
  obtain ⟨rfl, hsz, hP, hKK, hD0, hKS, hKZ⟩ := hv
  have hK := hKK.1
  have hx := B.exec
  have hb := B.bytes
  have hr := B.returns
  have hts := atoms_spec (ws := wsX4_requireNode) B.pre
  have hown : s.vm.findClass RX4 = some m.cls := findClass_of_methodNamed B.named
  have hlocks := B.notSynchronized
  subst hsz
  have hD := hD0.self (sz := s.heap.size)
  generalize hAe : va_A [(h_x, .inr (4, [.ref h_net, .ref a_now, .ref a_don, .ref a_wri, .ref a_per, .ref a_tho, .ref a_aft])), (h_net, .inr (1, [.ref a_ends, .int nc, .int sc, .int br, .int so, .int lo]))] s.heap.size = A at hD hKZ ⊢
  have hA : ∀ q : Nat, s.heap.size ≤ q → A q := fun q h => by rw [← hAe]; exact Or.inr h
  have hS : va_S A s.heap s.heap [] := va_S.rf
  have hl := lv_entry ([.ref h_x, .int p0]) (n := 2) (Nat.le_of_ble_eq_true rfl)
  rw [lg_entry_eq]
  generalize (lg_sl ([.ref h_x, .int p0]) ++ List.replicate (2 - (lg_sl ([.ref h_x, .int p0])).length) Slot.unset).toArray = ls at hl ⊢
  have hl : lv_has ls 2 [(0, .ref h_x), (1, .int p0)] := hl
  obtain ⟨QQ, hQQ⟩ : ∃ Z, Z = vx_MQ below (QT D (fun _ => none) A (fun u : Unit => [(h_x, .inr (4, [.ref h_net, .ref a_now, .ref a_don, .ref a_wri, .ref a_per, .ref a_tho, .ref a_aft])), (h_net, .inr (1, [.ref a_ends, .int nc, .int sc, .int br, .int so, .int lo]))]) R) (XT D A [(h_x, .inr (4, [.ref h_net, .ref a_now, .ref a_don, .ref a_wri, .ref a_per, .ref a_tho, .ref a_aft])), (h_net, .inr (1, [.ref a_ends, .int nc, .int sc, .int br, .int so, .int lo]))] R) ([.ref h_x, .int p0] : List Value).toArray s 1 6 A := ⟨_, rfl⟩
  rw [← hQQ]
  obtain ⟨H, locs, hHe, hLe⟩ : ∃ (H : Heap) (locs : List Loc), H = s.heap ∧ locs = [] := ⟨_, _, rfl, rfl⟩
  have hP : va_P D vwCl [(h_x, .inr (4, [.ref h_net, .ref a_now, .ref a_don, .ref a_wri, .ref a_per, .ref a_tho, .ref a_aft])), (h_net, .inr (1, [.ref a_ends, .int nc, .int sc, .int br, .int so, .int lo]))] H := by rw [hHe]; exact hP
  have hS : va_S A s.heap H locs := by rw [hHe, hLe]; exact hS
  have hW0 : ∀ QQ : State → Prop, W p l e (headSpec wsX4_requireNode rmX4_requireNode).room s m (([.ref h_x, .int p0] : List Value).toArray) below meth c H locs 0 0 QQ (F0 m 0 ls []) → W p l e (headSpec wsX4_requireNode rmX4_requireNode).room s m (([.ref h_x, .int p0] : List Value).toArray) below meth c s.heap [] 0 0 QQ (F0 m 0 ls []) := by rw [hHe, hLe]; exact fun _ h => h
  refine hW0 _ ?_
  clear hW0
  unfold fX4_requireNode at h
  refine lv_aload_n hx hb dX4_requireNode_0 rfl (lv_at hl 0 rfl) ?_
  refine va_get (D := D) (ci := 4) (v := .ref h_net) (C := RX4) (T := TX4) (N := 7) hx hb hts inX4_requireNode_X4 hown hK hP 0 rfl rfl 0 (by decide) (hts _ lkX4_requireNode_0) (fun _ h9 => h9) rfl dX4_requireNode_1 ?_
  refine lv_iload_n hx hb dX4_requireNode_4 rfl (lv_at hl 1 rfl) ?_
  obtain ⟨v1, hq2, h⟩ := bd1_e h
  refine zz_cV (As := [.int p0]) ⟨hx, hb, hml, hown, hts⟩ (kX1_hasNode l D cI cZ cL h_net a_ends nc sc br so lo p0 N hq2) (cwV 1 hts gX4_requireNode_X1_hasNode rfl rfl rfl (by decide +kernel) ⟨Nat.le_of_ble_eq_true rfl, Nat.le_of_ble_eq_true rfl⟩) (hP.sub (ws' := [(h_net, .inr (1, [.ref a_ends, .int nc, .int sc, .int br, .int so, .int lo]))]) [1] rfl) hKK (va_recv hK hP (ci := 1) (q0 := 1) rfl rfl) rfl hl.1 rfl (Nat.le_of_ble_eq_true rfl) dX4_requireNode_5 ⟨Nat.le_of_ble_eq_true rfl, Nat.le_of_ble_eq_true rfl⟩ ?_
  refine lv_if_ne (tgt := 21) hx hb dX4_requireNode_8 (by decide) (fun c3 => ?_) (fun c3 => ?_)
  · have h := it_f h c3
    cases h
    rw [hQQ]
    refine vx_ret ?_
    refine W.widen (k := 1) (n := 6) (Nat.le_of_ble_eq_true rfl) (Nat.le_of_ble_eq_true rfl) ?_
    exact W.vret hx hb hr (fun t ht hW => ⟨_, rfl, rfl, by rw [ht]; exact hP, hD, hS.F ht⟩) hS.2.2 dX4_requireNode_21
  · have h := it_t h c3
    cases h
    obtain ⟨sa9, hsa9⟩ := hKS.1 (229, "no such node") (List.mem_of_getElem? (i := 16) rfl)
    rw [hQQ]
    exact vx_throwS hx hb hl0 (A := A) (own := RX4) (cls := "java/lang/IndexOutOfBoundsException") (text := "no such node") (names := ["java/lang/RuntimeException", "java/lang/Exception"]) (ik := 121) (is := 229) (ic := 125) hown (by decide +kernel) (by decide +kernel) (hts _ lkX4_requireNode_1) (hts _ lkX4_requireNode_2) hsa9 (hKS.hat (fun w h => hts w (atX4_requireNode_125 w h)) nb_RX4_125) (go_RX4_125 121) hKZ.1 hKZ.2 hS (hl.1.trans hml.symm) dX4_requireNode_11 dX4_requireNode_14 dX4_requireNode_15 dX4_requireNode_17 dX4_requireNode_20 (fun x hx => (hno x hx).elim) (Nat.le_of_ble_eq_true rfl) (Nat.le_of_ble_eq_true rfl) (Nat.le_of_ble_eq_true rfl) (Nat.le_of_ble_eq_true rfl) hlocks (fun t ht hz hq => zz_XT hP hD hS hz hq) hS.2.2 (Nat.le_of_ble_eq_true rfl) (Nat.le_of_ble_eq_true rfl)

def fX4_requireAct (N : Nat) (nc : Int32) (sc : Int32) (br : Int32) (so : Int32) (lo : Int32) (p0 : Int32) (p1 : Int32) : Option (String ⊕ (Unit)) :=
  (if p0 < 0 then some (.inl "java/lang/IllegalArgumentException") else (if p0 ≤ 5 then bd1 (fX4_isOfSwitch N  p0) (fun v3 => (if v3 = 0 then bd1 (fX1_hasNode N nc sc br so lo p1) (fun v6 => (if v6 = 0 then some (.inl "java/lang/IndexOutOfBoundsException") else some (.inr ()))) else bd1 (fX1_hasSwitch N nc sc br so lo p1) (fun v9 => (if v9 = 0 then some (.inl "java/lang/IndexOutOfBoundsException") else some (.inr ()))))) else some (.inl "java/lang/IllegalArgumentException")))
set_option maxRecDepth 100000 in
theorem inX4_requireAct_X4 : ∀ w ∈ wsX40, w ∈ wsX4_requireAct := by decide +kernel
set_option maxRecDepth 100000 in
theorem lkX4_requireAct_0 : (.classLink RX4 66 "java/lang/IllegalArgumentException" : Cond) ∈ wsX4_requireAct := by decide +kernel
set_option maxRecDepth 100000 in
theorem lkX4_requireAct_1 : (.initialized "java/lang/IllegalArgumentException" : Cond) ∈ wsX4_requireAct := by decide +kernel
set_option maxRecDepth 100000 in
theorem lkX4_requireAct_2 : (.fieldLink RX4 10 "Switchlog" "net" "LSwitchlog$Net;" : Cond) ∈ wsX4_requireAct := by decide +kernel
set_option maxRecDepth 100000 in
theorem lkX4_requireAct_3 : (.classLink RX4 121 "java/lang/IndexOutOfBoundsException" : Cond) ∈ wsX4_requireAct := by decide +kernel
set_option maxRecDepth 100000 in
theorem lkX4_requireAct_4 : (.initialized "java/lang/IndexOutOfBoundsException" : Cond) ∈ wsX4_requireAct := by decide +kernel
set_option maxRecDepth 100000 in
theorem atX4_requireAct_70 : ∀ w ∈ (vx_atS RX4 70 "java/lang/IllegalArgumentException" ["java/lang/RuntimeException", "java/lang/Exception"]).filter goodWord, w ∈ wsX4_requireAct := by decide +kernel
set_option maxRecDepth 100000 in
theorem atX4_requireAct_125 : ∀ w ∈ (vx_atS RX4 125 "java/lang/IndexOutOfBoundsException" ["java/lang/RuntimeException", "java/lang/Exception"]).filter goodWord, w ∈ wsX4_requireAct := by decide +kernel
abbrev rmX4_requireAct : Room := { frames := 6, cells := 1, slots := 6, locals := 82 }
set_option maxHeartbeats 4000000 in
set_option maxRecDepth 100000 in
theorem kX4_requireAct (l : Launch) (hl0 : l.stackTraces = false) (D : va_G) (cI cZ cL : ClassId) (sz0 : Nat) (h_x a_now a_don a_wri a_per a_tho a_aft h_net a_ends : Nat) (nc : Int32) (sc : Int32) (br : Int32) (so : Int32) (lo : Int32) (p0 : Int32) (p1 : Int32) (N : Nat) {R : String ⊕ (Unit)} (h : fX4_requireAct N nc sc br so lo p0 p1 = some R) : vx_Met l yX4_requireAct wsX4_requireAct rmX4_requireAct (PT D cI cZ cL [.ref h_x, .int p0, .int p1] [(h_x, .inr (4, [.ref h_net, .ref a_now, .ref a_don, .ref a_wri, .ref a_per, .ref a_tho, .ref a_aft])), (h_net, .inr (1, [.ref a_ends, .int nc, .int sc, .int br, .int so, .int lo]))] sz0) (QT D (fun _ => none) (va_A [(h_x, .inr (4, [.ref h_net, .ref a_now, .ref a_don, .ref a_wri, .ref a_per, .ref a_tho, .ref a_aft])), (h_net, .inr (1, [.ref a_ends, .int nc, .int sc, .int br, .int so, .int lo]))] sz0) (fun u : Unit => [(h_x, .inr (4, [.ref h_net, .ref a_now, .ref a_don, .ref a_wri, .ref a_per, .ref a_tho, .ref a_aft])), (h_net, .inr (1, [.ref a_ends, .int nc, .int sc, .int br, .int so, .int lo]))]) R) (XT D (va_A [(h_x, .inr (4, [.ref h_net, .ref a_now, .ref a_don, .ref a_wri, .ref a_per, .ref a_tho, .ref a_aft])), (h_net, .inr (1, [.ref a_ends, .int nc, .int sc, .int br, .int so, .int lo]))] sz0) [(h_x, .inr (4, [.ref h_net, .ref a_now, .ref a_don, .ref a_wri, .ref a_per, .ref a_tho, .ref a_aft])), (h_net, .inr (1, [.ref a_ends, .int nc, .int sc, .int br, .int so, .int lo]))] R) 1 6 (va_A [(h_x, .inr (4, [.ref h_net, .ref a_now, .ref a_don, .ref a_wri, .ref a_per, .ref a_tho, .ref a_aft])), (h_net, .inr (1, [.ref a_ends, .int nc, .int sc, .int br, .int so, .int lo]))] sz0) := by
  refine vx_ofW (cc := cX4_requireAct) (maxL := 3) (ret := none) (by decide) rfl ?_
  intro p e s m args below meth c s₁ B hml hno hv
  obtain ⟨rfl, hsz, hP, hKK, hD0, hKS, hKZ⟩ := hv
  have hK := hKK.1
  have hx := B.exec
  have hb := B.bytes
  have hr := B.returns
  have hts := atoms_spec (ws := wsX4_requireAct) B.pre
  have hown : s.vm.findClass RX4 = some m.cls := findClass_of_methodNamed B.named
  have hlocks := B.notSynchronized
  subst hsz
  have hD := hD0.self (sz := s.heap.size)
  generalize hAe : va_A [(h_x, .inr (4, [.ref h_net, .ref a_now, .ref a_don, .ref a_wri, .ref a_per, .ref a_tho, .ref a_aft])), (h_net, .inr (1, [.ref a_ends, .int nc, .int sc, .int br, .int so, .int lo]))] s.heap.size = A at hD hKZ ⊢
  have hA : ∀ q : Nat, s.heap.size ≤ q → A q := fun q h => by rw [← hAe]; exact Or.inr h
  have hS : va_S A s.heap s.heap [] := va_S.rf
  have hl := lv_entry ([.ref h_x, .int p0, .int p1]) (n := 3) (Nat.le_of_ble_eq_true rfl)
  rw [lg_entry_eq]
  generalize (lg_sl ([.ref h_x, .int p0, .int p1]) ++ List.replicate (3 - (lg_sl ([.ref h_x, .int p0, .int p1])).length) Slot.unset).toArray = ls at hl ⊢
  have hl : lv_has ls 3 [(0, .ref h_x), (1, .int p0), (2, .int p1)] := hl
  obtain ⟨QQ, hQQ⟩ : ∃ Z, Z = vx_MQ below (QT D (fun _ => none) A (fun u : Unit => [(h_x, .inr (4, [.ref h_net, .ref a_now, .ref a_don, .ref a_wri, .ref a_per, .ref a_tho, .ref a_aft])), (h_net, .inr (1, [.ref a_ends, .int nc, .int sc, .int br, .int so, .int lo]))]) R) (XT D A [(h_x, .inr (4, [.ref h_net, .ref a_now, .ref a_don, .ref a_wri, .ref a_per, .ref a_tho, .ref a_aft])), (h_net, .inr (1, [.ref a_ends, .int nc, .int sc, .int br, .int so, .int lo]))] R) ([.ref h_x, .int p0, .int p1] : List Value).toArray s 1 6 A := ⟨_, rfl⟩
  rw [← hQQ]
  obtain ⟨H, locs, hHe, hLe⟩ : ∃ (H : Heap) (locs : List Loc), H = s.heap ∧ locs = [] := ⟨_, _, rfl, rfl⟩
  have hP : va_P D vwCl [(h_x, .inr (4, [.ref h_net, .ref a_now, .ref a_don, .ref a_wri, .ref a_per, .ref a_tho, .ref a_aft])), (h_net, .inr (1, [.ref a_ends, .int nc, .int sc, .int br, .int so, .int lo]))] H := by rw [hHe]; exact hP
  have hS : va_S A s.heap H locs := by rw [hHe, hLe]; exact hS
  have hW0 : ∀ QQ : State → Prop, W p l e (headSpec wsX4_requireAct rmX4_requireAct).room s m (([.ref h_x, .int p0, .int p1] : List Value).toArray) below meth c H locs 0 0 QQ (F0 m 0 ls []) → W p l e (headSpec wsX4_requireAct rmX4_requireAct).room s m (([.ref h_x, .int p0, .int p1] : List Value).toArray) below meth c s.heap [] 0 0 QQ (F0 m 0 ls []) := by rw [hHe, hLe]; exact fun _ h => h
  refine hW0 _ ?_
  clear hW0
  unfold fX4_requireAct at h
  refine lv_iload_n hx hb dX4_requireAct_0 rfl (lv_at hl 1 rfl) ?_
  refine lv_if_lt (tgt := 9) hx hb dX4_requireAct_1 (by decide) (fun c1 => ?_) (fun c1 => ?_)
  · have h := it_t h c1
    cases h
    obtain ⟨sa9, hsa9⟩ := hKS.1 (231, "kind is not 0 to 5") (List.mem_of_getElem? (i := 17) rfl)
    rw [hQQ]
    exact vx_throwS hx hb hl0 (A := A) (own := RX4) (cls := "java/lang/IllegalArgumentException") (text := "kind is not 0 to 5") (names := ["java/lang/RuntimeException", "java/lang/Exception"]) (ik := 66) (is := 231) (ic := 70) hown (by decide +kernel) (by decide +kernel) (hts _ lkX4_requireAct_0) (hts _ lkX4_requireAct_1) hsa9 (hKS.hat (fun w h => hts w (atX4_requireAct_70 w h)) nb_RX4_70) (go_RX4_70 66) hKZ.1 hKZ.2 hS (hl.1.trans hml.symm) dX4_requireAct_9 dX4_requireAct_12 dX4_requireAct_13 dX4_requireAct_15 dX4_requireAct_18 (fun x hx => (hno x hx).elim) (Nat.le_of_ble_eq_true rfl) (Nat.le_of_ble_eq_true rfl) (Nat.le_of_ble_eq_true rfl) (Nat.le_of_ble_eq_true rfl) hlocks (fun t ht hz hq => zz_XT hP hD hS hz hq) hS.2.2 (Nat.le_of_ble_eq_true rfl) (Nat.le_of_ble_eq_true rfl)
  · have h := it_f h c1
    refine lv_iload_n hx hb dX4_requireAct_4 rfl (lv_at hl 1 rfl) ?_
    refine lv_iconst (v := 5) hx hb dX4_requireAct_5 (by decide) ?_
    refine lv_icmp_le (tgt := 19) hx hb dX4_requireAct_6 (by decide) (fun c2 => ?_) (fun c2 => ?_)
    · have h := it_t h c2
      refine lv_iload_n hx hb dX4_requireAct_19 rfl (lv_at hl 1 rfl) ?_
      obtain ⟨v3, hq4, h⟩ := bd1_e h
      refine zz_cS (As := [.int p0]) ⟨hx, hb, hml, hown, hts⟩ (kX4_isOfSwitch l D cI cZ cL p0 N hq4) (va_cwS 1 hts gX4_requireAct_X4_isOfSwitch rfl rfl rfl (by decide +kernel) ⟨Nat.le_of_ble_eq_true rfl, Nat.le_of_ble_eq_true rfl⟩) (hP.sub (ws' := []) [] rfl) hKK rfl hl.1 rfl (Nat.le_of_ble_eq_true rfl) dX4_requireAct_20 ⟨Nat.le_of_ble_eq_true rfl, Nat.le_of_ble_eq_true rfl⟩ ?_
      refine lv_if_eq (tgt := 40) hx hb dX4_requireAct_23 (by decide) (fun c5 => ?_) (fun c5 => ?_)
      · have h := it_t h c5
        refine lv_aload_n hx hb dX4_requireAct_40 rfl (lv_at hl 0 rfl) ?_
        refine va_get (D := D) (ci := 4) (v := .ref h_net) (C := RX4) (T := TX4) (N := 7) hx hb hts inX4_requireAct_X4 hown hK hP 0 rfl rfl 0 (by decide) (hts _ lkX4_requireAct_2) (fun _ h9 => h9) rfl dX4_requireAct_41 ?_
        refine lv_iload_n hx hb dX4_requireAct_44 rfl (lv_at hl 2 rfl) ?_
        obtain ⟨v6, hq7, h⟩ := bd1_e h
        refine zz_cV (As := [.int p1]) ⟨hx, hb, hml, hown, hts⟩ (kX1_hasNode l D cI cZ cL h_net a_ends nc sc br so lo p1 N hq7) (cwV 1 hts gX4_requireAct_X1_hasNode rfl rfl rfl (by decide +kernel) ⟨Nat.le_of_ble_eq_true rfl, Nat.le_of_ble_eq_true rfl⟩) (hP.sub (ws' := [(h_net, .inr (1, [.ref a_ends, .int nc, .int sc, .int br, .int so, .int lo]))]) [1] rfl) hKK (va_recv hK hP (ci := 1) (q0 := 1) rfl rfl) rfl hl.1 rfl (Nat.le_of_ble_eq_true rfl) dX4_requireAct_45 ⟨Nat.le_of_ble_eq_true rfl, Nat.le_of_ble_eq_true rfl⟩ ?_
        refine lv_if_ne (tgt := 61) hx hb dX4_requireAct_48 (by decide) (fun c8 => ?_) (fun c8 => ?_)
        · have h := it_f h c8
          cases h
          rw [hQQ]
          refine vx_ret ?_
          refine W.widen (k := 1) (n := 6) (Nat.le_of_ble_eq_true rfl) (Nat.le_of_ble_eq_true rfl) ?_
          exact W.vret hx hb hr (fun t ht hW => ⟨_, rfl, rfl, by rw [ht]; exact hP, hD, hS.F ht⟩) hS.2.2 dX4_requireAct_61
        · have h := it_t h c8
          cases h
          obtain ⟨sa9, hsa9⟩ := hKS.1 (236, "no such switch or node") (List.mem_of_getElem? (i := 18) rfl)
          rw [hQQ]
          exact vx_throwS hx hb hl0 (A := A) (own := RX4) (cls := "java/lang/IndexOutOfBoundsException") (text := "no such switch or node") (names := ["java/lang/RuntimeException", "java/lang/Exception"]) (ik := 121) (is := 236) (ic := 125) hown (by decide +kernel) (by decide +kernel) (hts _ lkX4_requireAct_3) (hts _ lkX4_requireAct_4) hsa9 (hKS.hat (fun w h => hts w (atX4_requireAct_125 w h)) nb_RX4_125) (go_RX4_125 121) hKZ.1 hKZ.2 hS (hl.1.trans hml.symm) dX4_requireAct_51 dX4_requireAct_54 dX4_requireAct_55 dX4_requireAct_57 dX4_requireAct_60 (fun x hx => (hno x hx).elim) (Nat.le_of_ble_eq_true rfl) (Nat.le_of_ble_eq_true rfl) (Nat.le_of_ble_eq_true rfl) (Nat.le_of_ble_eq_true rfl) hlocks (fun t ht hz hq => zz_XT hP hD hS hz hq) hS.2.2 (Nat.le_of_ble_eq_true rfl) (Nat.le_of_ble_eq_true rfl)
      · have h := it_f h c5
        refine lv_aload_n hx hb dX4_requireAct_26 rfl (lv_at hl 0 rfl) ?_
        refine va_get (D := D) (ci := 4) (v := .ref h_net) (C := RX4) (T := TX4) (N := 7) hx hb hts inX4_requireAct_X4 hown hK hP 0 rfl rfl 0 (by decide) (hts _ lkX4_requireAct_2) (fun _ h9 => h9) rfl dX4_requireAct_27 ?_
        refine lv_iload_n hx hb dX4_requireAct_30 rfl (lv_at hl 2 rfl) ?_
        obtain ⟨v9, hq10, h⟩ := bd1_e h
        refine zz_cV (As := [.int p1]) ⟨hx, hb, hml, hown, hts⟩ (kX1_hasSwitch l D cI cZ cL h_net a_ends nc sc br so lo p1 N hq10) (cwV 1 hts gX4_requireAct_X1_hasSwitch rfl rfl rfl (by decide +kernel) ⟨Nat.le_of_ble_eq_true rfl, Nat.le_of_ble_eq_true rfl⟩) (hP.sub (ws' := [(h_net, .inr (1, [.ref a_ends, .int nc, .int sc, .int br, .int so, .int lo]))]) [1] rfl) hKK (va_recv hK hP (ci := 1) (q0 := 1) rfl rfl) rfl hl.1 rfl (Nat.le_of_ble_eq_true rfl) dX4_requireAct_31 ⟨Nat.le_of_ble_eq_true rfl, Nat.le_of_ble_eq_true rfl⟩ ?_
        refine lv_if_ne (tgt := 61) hx hb dX4_requireAct_34 (by decide) (fun c11 => ?_) (fun c11 => ?_)
        · have h := it_f h c11
          cases h
          rw [hQQ]
          refine vx_ret ?_
          refine W.widen (k := 1) (n := 6) (Nat.le_of_ble_eq_true rfl) (Nat.le_of_ble_eq_true rfl) ?_
          exact W.vret hx hb hr (fun t ht hW => ⟨_, rfl, rfl, by rw [ht]; exact hP, hD, hS.F ht⟩) hS.2.2 dX4_requireAct_61
        · have h := it_t h c11
          refine lv_goto (tgt := 51) hx hb dX4_requireAct_37 (by decide) ?_
          cases h
          obtain ⟨sa9, hsa9⟩ := hKS.1 (236, "no such switch or node") (List.mem_of_getElem? (i := 18) rfl)
          rw [hQQ]
          exact vx_throwS hx hb hl0 (A := A) (own := RX4) (cls := "java/lang/IndexOutOfBoundsException") (text := "no such switch or node") (names := ["java/lang/RuntimeException", "java/lang/Exception"]) (ik := 121) (is := 236) (ic := 125) hown (by decide +kernel) (by decide +kernel) (hts _ lkX4_requireAct_3) (hts _ lkX4_requireAct_4) hsa9 (hKS.hat (fun w h => hts w (atX4_requireAct_125 w h)) nb_RX4_125) (go_RX4_125 121) hKZ.1 hKZ.2 hS (hl.1.trans hml.symm) dX4_requireAct_51 dX4_requireAct_54 dX4_requireAct_55 dX4_requireAct_57 dX4_requireAct_60 (fun x hx => (hno x hx).elim) (Nat.le_of_ble_eq_true rfl) (Nat.le_of_ble_eq_true rfl) (Nat.le_of_ble_eq_true rfl) (Nat.le_of_ble_eq_true rfl) hlocks (fun t ht hz hq => zz_XT hP hD hS hz hq) hS.2.2 (Nat.le_of_ble_eq_true rfl) (Nat.le_of_ble_eq_true rfl)
    · have h := it_f h c2
      cases h
      obtain ⟨sa9, hsa9⟩ := hKS.1 (231, "kind is not 0 to 5") (List.mem_of_getElem? (i := 17) rfl)
      rw [hQQ]
      exact vx_throwS hx hb hl0 (A := A) (own := RX4) (cls := "java/lang/IllegalArgumentException") (text := "kind is not 0 to 5") (names := ["java/lang/RuntimeException", "java/lang/Exception"]) (ik := 66) (is := 231) (ic := 70) hown (by decide +kernel) (by decide +kernel) (hts _ lkX4_requireAct_0) (hts _ lkX4_requireAct_1) hsa9 (hKS.hat (fun w h => hts w (atX4_requireAct_70 w h)) nb_RX4_70) (go_RX4_70 66) hKZ.1 hKZ.2 hS (hl.1.trans hml.symm) dX4_requireAct_9 dX4_requireAct_12 dX4_requireAct_13 dX4_requireAct_15 dX4_requireAct_18 (fun x hx => (hno x hx).elim) (Nat.le_of_ble_eq_true rfl) (Nat.le_of_ble_eq_true rfl) (Nat.le_of_ble_eq_true rfl) (Nat.le_of_ble_eq_true rfl) hlocks (fun t ht hz hq => zz_XT hP hD hS hz hq) hS.2.2 (Nat.le_of_ble_eq_true rfl) (Nat.le_of_ble_eq_true rfl)

def fX4_addNode (N : Nat) (nc : Int32) (sc : Int32) (br : Int32) (so : Int32) (lo : Int32) (p0 : Int32) (p1 : Int32) : Option (String ⊕ ((Int32) × (Int32) × (Int32) × (Int32))) :=
  bd1 (fX1_nodeCount N nc sc br so lo) (fun v1 => (if v1 < 16 then bd4 (fX1_appendNode N nc sc br so lo p0 p1) (fun v5 w6 w7 w8 => some (.inr (v5, w6, w7, w8))) else some (.inl "java/lang/IllegalStateException")))
set_option maxRecDepth 100000 in
theorem inX4_addNode_X4 : ∀ w ∈ wsX40, w ∈ wsX4_addNode := by decide +kernel
set_option maxRecDepth 100000 in
theorem lkX4_addNode_0 : (.fieldLink RX4 10 "Switchlog" "net" "LSwitchlog$Net;" : Cond) ∈ wsX4_addNode := by decide +kernel
set_option maxRecDepth 100000 in
theorem lkX4_addNode_1 : (.classLink RX4 52 "java/lang/IllegalStateException" : Cond) ∈ wsX4_addNode := by decide +kernel
set_option maxRecDepth 100000 in
theorem lkX4_addNode_2 : (.initialized "java/lang/IllegalStateException" : Cond) ∈ wsX4_addNode := by decide +kernel
set_option maxRecDepth 100000 in
theorem atX4_addNode_56 : ∀ w ∈ (vx_atS RX4 56 "java/lang/IllegalStateException" ["java/lang/RuntimeException", "java/lang/Exception"]).filter goodWord, w ∈ wsX4_addNode := by decide +kernel
abbrev rmX4_addNode : Room := { frames := 6, cells := 1, slots := 6, locals := 82 }
set_option maxHeartbeats 4000000 in
set_option maxRecDepth 100000 in
theorem kX4_addNode (l : Launch) (hl0 : l.stackTraces = false) (D : va_G) (cI cZ cL : ClassId) (sz0 : Nat) (h_x a_now a_don a_wri a_per a_tho a_aft h_net a_ends : Nat) (nc : Int32) (sc : Int32) (br : Int32) (so : Int32) (lo : Int32) (p0 : Int32) (p1 : Int32) (N : Nat) {R : String ⊕ ((Int32) × (Int32) × (Int32) × (Int32))} (h : fX4_addNode N nc sc br so lo p0 p1 = some R) : vx_Met l yX4_addNode wsX4_addNode rmX4_addNode (PT D cI cZ cL [.ref h_x, .int p0, .int p1] [(h_x, .inr (4, [.ref h_net, .ref a_now, .ref a_don, .ref a_wri, .ref a_per, .ref a_tho, .ref a_aft])), (h_net, .inr (1, [.ref a_ends, .int nc, .int sc, .int br, .int so, .int lo]))] sz0) (QT D (fun u => some (.int u.1)) (va_A [(h_x, .inr (4, [.ref h_net, .ref a_now, .ref a_don, .ref a_wri, .ref a_per, .ref a_tho, .ref a_aft])), (h_net, .inr (1, [.ref a_ends, .int nc, .int sc, .int br, .int so, .int lo]))] sz0) (fun u : (Int32) × (Int32) × (Int32) × (Int32) => [(h_x, .inr (4, [.ref h_net, .ref a_now, .ref a_don, .ref a_wri, .ref a_per, .ref a_tho, .ref a_aft])), (h_net, .inr (1, [.ref a_ends, .int u.2.1, .int sc, .int br, .int u.2.2.1, .int u.2.2.2]))]) R) (XT D (va_A [(h_x, .inr (4, [.ref h_net, .ref a_now, .ref a_don, .ref a_wri, .ref a_per, .ref a_tho, .ref a_aft])), (h_net, .inr (1, [.ref a_ends, .int nc, .int sc, .int br, .int so, .int lo]))] sz0) [(h_x, .inr (4, [.ref h_net, .ref a_now, .ref a_don, .ref a_wri, .ref a_per, .ref a_tho, .ref a_aft])), (h_net, .inr (1, [.ref a_ends, .int nc, .int sc, .int br, .int so, .int lo]))] R) 1 6 (va_A [(h_x, .inr (4, [.ref h_net, .ref a_now, .ref a_don, .ref a_wri, .ref a_per, .ref a_tho, .ref a_aft])), (h_net, .inr (1, [.ref a_ends, .int nc, .int sc, .int br, .int so, .int lo]))] sz0) := by
  refine vx_ofW (cc := cX4_addNode) (maxL := 3) (ret := (some .int)) (by decide) rfl ?_
  intro p e s m args below meth c s₁ B hml hno hv
  obtain ⟨rfl, hsz, hP, hKK, hD0, hKS, hKZ⟩ := hv
  have hK := hKK.1
  have hx := B.exec
  have hb := B.bytes
  have hr := B.returns
  have hts := atoms_spec (ws := wsX4_addNode) B.pre
  have hown : s.vm.findClass RX4 = some m.cls := findClass_of_methodNamed B.named
  have hlocks := B.notSynchronized
  subst hsz
  have hD := hD0.self (sz := s.heap.size)
  generalize hAe : va_A [(h_x, .inr (4, [.ref h_net, .ref a_now, .ref a_don, .ref a_wri, .ref a_per, .ref a_tho, .ref a_aft])), (h_net, .inr (1, [.ref a_ends, .int nc, .int sc, .int br, .int so, .int lo]))] s.heap.size = A at hD hKZ ⊢
  have hA : ∀ q : Nat, s.heap.size ≤ q → A q := fun q h => by rw [← hAe]; exact Or.inr h
  have hS : va_S A s.heap s.heap [] := va_S.rf
  have hl := lv_entry ([.ref h_x, .int p0, .int p1]) (n := 3) (Nat.le_of_ble_eq_true rfl)
  rw [lg_entry_eq]
  generalize (lg_sl ([.ref h_x, .int p0, .int p1]) ++ List.replicate (3 - (lg_sl ([.ref h_x, .int p0, .int p1])).length) Slot.unset).toArray = ls at hl ⊢
  have hl : lv_has ls 3 [(0, .ref h_x), (1, .int p0), (2, .int p1)] := hl
  obtain ⟨QQ, hQQ⟩ : ∃ Z, Z = vx_MQ below (QT D (fun u => some (.int u.1)) A (fun u : (Int32) × (Int32) × (Int32) × (Int32) => [(h_x, .inr (4, [.ref h_net, .ref a_now, .ref a_don, .ref a_wri, .ref a_per, .ref a_tho, .ref a_aft])), (h_net, .inr (1, [.ref a_ends, .int u.2.1, .int sc, .int br, .int u.2.2.1, .int u.2.2.2]))]) R) (XT D A [(h_x, .inr (4, [.ref h_net, .ref a_now, .ref a_don, .ref a_wri, .ref a_per, .ref a_tho, .ref a_aft])), (h_net, .inr (1, [.ref a_ends, .int nc, .int sc, .int br, .int so, .int lo]))] R) ([.ref h_x, .int p0, .int p1] : List Value).toArray s 1 6 A := ⟨_, rfl⟩
  rw [← hQQ]
  obtain ⟨H, locs, hHe, hLe⟩ : ∃ (H : Heap) (locs : List Loc), H = s.heap ∧ locs = [] := ⟨_, _, rfl, rfl⟩
  have hP : va_P D vwCl [(h_x, .inr (4, [.ref h_net, .ref a_now, .ref a_don, .ref a_wri, .ref a_per, .ref a_tho, .ref a_aft])), (h_net, .inr (1, [.ref a_ends, .int nc, .int sc, .int br, .int so, .int lo]))] H := by rw [hHe]; exact hP
  have hS : va_S A s.heap H locs := by rw [hHe, hLe]; exact hS
  have hW0 : ∀ QQ : State → Prop, W p l e (headSpec wsX4_addNode rmX4_addNode).room s m (([.ref h_x, .int p0, .int p1] : List Value).toArray) below meth c H locs 0 0 QQ (F0 m 0 ls []) → W p l e (headSpec wsX4_addNode rmX4_addNode).room s m (([.ref h_x, .int p0, .int p1] : List Value).toArray) below meth c s.heap [] 0 0 QQ (F0 m 0 ls []) := by rw [hHe, hLe]; exact fun _ h => h
  refine hW0 _ ?_
  clear hW0
  unfold fX4_addNode at h
  refine lv_aload_n hx hb dX4_addNode_0 rfl (lv_at hl 0 rfl) ?_
  refine va_get (D := D) (ci := 4) (v := .ref h_net) (C := RX4) (T := TX4) (N := 7) hx hb hts inX4_addNode_X4 hown hK hP 0 rfl rfl 0 (by decide) (hts _ lkX4_addNode_0) (fun _ h9 => h9) rfl dX4_addNode_1 ?_
  obtain ⟨v1, hq2, h⟩ := bd1_e h
  refine zz_cV (As := []) ⟨hx, hb, hml, hown, hts⟩ (kX1_nodeCount l D cI cZ cL h_net a_ends nc sc br so lo N hq2) (cwV 0 hts gX4_addNode_X1_nodeCount rfl rfl rfl (by decide +kernel) ⟨Nat.le_of_ble_eq_true rfl, Nat.le_of_ble_eq_true rfl⟩) (hP.sub (ws' := [(h_net, .inr (1, [.ref a_ends, .int nc, .int sc, .int br, .int so, .int lo]))]) [1] rfl) hKK (va_recv hK hP (ci := 1) (q0 := 1) rfl rfl) rfl hl.1 rfl (Nat.le_of_ble_eq_true rfl) dX4_addNode_4 ⟨Nat.le_of_ble_eq_true rfl, Nat.le_of_ble_eq_true rfl⟩ ?_
  refine lv_bipush (v := 16) hx hb dX4_addNode_7 (by decide) ?_
  refine lv_icmp_lt (tgt := 22) hx hb dX4_addNode_9 (by decide) (fun c3 => ?_) (fun c3 => ?_)
  · have h := it_t h c3
    refine lv_aload_n hx hb dX4_addNode_22 rfl (lv_at hl 0 rfl) ?_
    refine va_get (D := D) (ci := 4) (v := .ref h_net) (C := RX4) (T := TX4) (N := 7) hx hb hts inX4_addNode_X4 hown hK hP 0 rfl rfl 0 (by decide) (hts _ lkX4_addNode_0) (fun _ h9 => h9) rfl dX4_addNode_23 ?_
    refine lv_iload_n hx hb dX4_addNode_26 rfl (lv_at hl 1 rfl) ?_
    refine lv_iload_n hx hb dX4_addNode_27 rfl (lv_at hl 2 rfl) ?_
    obtain ⟨v5, w6, w7, w8, hq4, h⟩ := bd4_e h
    refine zz_mV (As := [.int p0, .int p1]) (wr := [(h_x, .inr (4, [.ref h_net, .ref a_now, .ref a_don, .ref a_wri, .ref a_per, .ref a_tho, .ref a_aft]))]) (w1 := [(h_net, .inr (1, [.ref a_ends, .int w6, .int sc, .int br, .int w7, .int w8]))]) (wt' := [(h_x, .inr (4, [.ref h_net, .ref a_now, .ref a_don, .ref a_wri, .ref a_per, .ref a_tho, .ref a_aft])), (h_net, .inr (1, [.ref a_ends, .int w6, .int sc, .int br, .int w7, .int w8]))]) (wc := [(h_net, .inr (1, [.ref a_ends, .int nc, .int sc, .int br, .int so, .int lo]))]) (rv := (some (.int v5))) ⟨hx, hb, hml, hown, hts⟩ (kX1_appendNode l D cI cZ cL H.size h_net a_ends nc sc br so lo p0 p1 N hq4) (cwV 2 hts gX4_addNode_X1_appendNode rfl rfl rfl (by decide +kernel) ⟨Nat.le_of_ble_eq_true rfl, Nat.le_of_ble_eq_true rfl⟩) hP hD hS hA hKK [1] [0] [0, 1] rfl rfl (by decide) (by decide) rfl (by decide) (by decide) (va_recv hK hP (ci := 1) (q0 := 1) rfl rfl) rfl hl.1 rfl (Nat.le_of_ble_eq_true rfl) dX4_addNode_28 ⟨Nat.le_of_ble_eq_true rfl, Nat.le_of_ble_eq_true rfl⟩ (fun H locs hP hD hS hz9 => ?_)
    show W p l e _ s m _ below meth c H locs _ _ QQ (F0 m 31 ls (.int v5 :: []))
    cases h
    rw [hQQ]
    refine vx_ret ?_
    refine W.widen (k := 1) (n := 6) (Nat.le_of_ble_eq_true rfl) (Nat.le_of_ble_eq_true rfl) ?_
    exact W.iret hx hb hr (fun t ht hW => ⟨_, rfl, rfl, by rw [ht]; exact hP, hD, hS.F ht⟩) hS.2.2 dX4_addNode_31
  · have h := it_f h c3
    cases h
    obtain ⟨sa9, hsa9⟩ := hKS.1 (54, "there are 16 nodes") (List.mem_of_getElem? (i := 0) rfl)
    rw [hQQ]
    exact vx_throwS hx hb hl0 (A := A) (own := RX4) (cls := "java/lang/IllegalStateException") (text := "there are 16 nodes") (names := ["java/lang/RuntimeException", "java/lang/Exception"]) (ik := 52) (is := 54) (ic := 56) hown (by decide +kernel) (by decide +kernel) (hts _ lkX4_addNode_1) (hts _ lkX4_addNode_2) hsa9 (hKS.hat (fun w h => hts w (atX4_addNode_56 w h)) nb_RX4_56) (go_RX4_56 52) hKZ.1 hKZ.2 hS (hl.1.trans hml.symm) dX4_addNode_12 dX4_addNode_15 dX4_addNode_16 dX4_addNode_18 dX4_addNode_21 (fun x hx => (hno x hx).elim) (Nat.le_of_ble_eq_true rfl) (Nat.le_of_ble_eq_true rfl) (Nat.le_of_ble_eq_true rfl) (Nat.le_of_ble_eq_true rfl) hlocks (fun t ht hz hq => zz_XT hP hD hS hz hq) hS.2.2 (Nat.le_of_ble_eq_true rfl) (Nat.le_of_ble_eq_true rfl)

def fX4_addSwitch (N : Nat) (nc : Int32) (sc : Int32) (br : Int32) (so : Int32) (lo : Int32) (ends : Nat → Int32) (p0 : Int32) (p1 : Int32) (p2 : Int32) : Option (String ⊕ ((Int32) × (Nat → Int32) × (Int32) × (Int32))) :=
  bx0 (fX4_requireNode N nc sc br so lo p0) (bx0 (fX4_requireNode N nc sc br so lo p1) ((if p0 = p1 then some (.inl "java/lang/IllegalArgumentException") else bd1 (fX1_switchCount N nc sc br so lo) (fun v6 => (if v6 < 24 then bd4 (fX1_appendSwitch N nc sc br so lo ends p0 p1 p2) (fun v10 w11 w12 w13 => some (.inr (v10, w11, w12, w13))) else some (.inl "java/lang/IllegalStateException"))))))
set_option maxRecDepth 100000 in
theorem inX4_addSwitch_X4 : ∀ w ∈ wsX40, w ∈ wsX4_addSwitch := by decide +kernel
set_option maxRecDepth 100000 in
theorem lkX4_addSwitch_0 : (.fieldLink RX4 10 "Switchlog" "net" "LSwitchlog$Net;" : Cond) ∈ wsX4_addSwitch := by decide +kernel
set_option maxRecDepth 100000 in
theorem lkX4_addSwitch_1 : (.classLink RX4 52 "java/lang/IllegalStateException" : Cond) ∈ wsX4_addSwitch := by decide +kernel
set_option maxRecDepth 100000 in
theorem lkX4_addSwitch_2 : (.initialized "java/lang/IllegalStateException" : Cond) ∈ wsX4_addSwitch := by decide +kernel
set_option maxRecDepth 100000 in
theorem lkX4_addSwitch_3 : (.classLink RX4 66 "java/lang/IllegalArgumentException" : Cond) ∈ wsX4_addSwitch := by decide +kernel
set_option maxRecDepth 100000 in
theorem lkX4_addSwitch_4 : (.initialized "java/lang/IllegalArgumentException" : Cond) ∈ wsX4_addSwitch := by decide +kernel
set_option maxRecDepth 100000 in
theorem atX4_addSwitch_56 : ∀ w ∈ (vx_atS RX4 56 "java/lang/IllegalStateException" ["java/lang/RuntimeException", "java/lang/Exception"]).filter goodWord, w ∈ wsX4_addSwitch := by decide +kernel
set_option maxRecDepth 100000 in
theorem atX4_addSwitch_70 : ∀ w ∈ (vx_atS RX4 70 "java/lang/IllegalArgumentException" ["java/lang/RuntimeException", "java/lang/Exception"]).filter goodWord, w ∈ wsX4_addSwitch := by decide +kernel
abbrev rmX4_addSwitch : Room := { frames := 7, cells := 3, slots := 18, locals := 103 }
set_option maxHeartbeats 4000000 in
set_option maxRecDepth 100000 in
theorem kX4_addSwitch (l : Launch) (hl0 : l.stackTraces = false) (D : va_G) (cI cZ cL : ClassId) (sz0 : Nat) (h_x a_now a_don a_wri a_per a_tho a_aft h_net h_ends : Nat) (nc : Int32) (sc : Int32) (br : Int32) (so : Int32) (lo : Int32) (ends : Nat → Int32) (p0 : Int32) (p1 : Int32) (p2 : Int32) (N : Nat) {R : String ⊕ ((Int32) × (Nat → Int32) × (Int32) × (Int32))} (h : fX4_addSwitch N nc sc br so lo ends p0 p1 p2 = some R) : vx_Met l yX4_addSwitch wsX4_addSwitch rmX4_addSwitch (PT D cI cZ cL [.ref h_x, .int p0, .int p1, .int p2] [(h_x, .inr (4, [.ref h_net, .ref a_now, .ref a_don, .ref a_wri, .ref a_per, .ref a_tho, .ref a_aft])), (h_net, .inr (1, [.ref h_ends, .int nc, .int sc, .int br, .int so, .int lo])), (h_ends, .inl (cI, 24, .inl ends))] sz0) (QT D (fun u => some (.int u.1)) (va_A [(h_x, .inr (4, [.ref h_net, .ref a_now, .ref a_don, .ref a_wri, .ref a_per, .ref a_tho, .ref a_aft])), (h_net, .inr (1, [.ref h_ends, .int nc, .int sc, .int br, .int so, .int lo])), (h_ends, .inl (cI, 24, .inl ends))] sz0) (fun u : (Int32) × (Nat → Int32) × (Int32) × (Int32) => [(h_x, .inr (4, [.ref h_net, .ref a_now, .ref a_don, .ref a_wri, .ref a_per, .ref a_tho, .ref a_aft])), (h_net, .inr (1, [.ref h_ends, .int nc, .int u.2.2.1, .int u.2.2.2, .int so, .int lo])), (h_ends, .inl (cI, 24, .inl u.2.1))]) R) (XT D (va_A [(h_x, .inr (4, [.ref h_net, .ref a_now, .ref a_don, .ref a_wri, .ref a_per, .ref a_tho, .ref a_aft])), (h_net, .inr (1, [.ref h_ends, .int nc, .int sc, .int br, .int so, .int lo])), (h_ends, .inl (cI, 24, .inl ends))] sz0) [(h_x, .inr (4, [.ref h_net, .ref a_now, .ref a_don, .ref a_wri, .ref a_per, .ref a_tho, .ref a_aft])), (h_net, .inr (1, [.ref h_ends, .int nc, .int sc, .int br, .int so, .int lo])), (h_ends, .inl (cI, 24, .inl ends))] R) 3 18 (va_A [(h_x, .inr (4, [.ref h_net, .ref a_now, .ref a_don, .ref a_wri, .ref a_per, .ref a_tho, .ref a_aft])), (h_net, .inr (1, [.ref h_ends, .int nc, .int sc, .int br, .int so, .int lo])), (h_ends, .inl (cI, 24, .inl ends))] sz0) := by
  refine vx_ofW (cc := cX4_addSwitch) (maxL := 4) (ret := (some .int)) (by decide) rfl ?_
  intro p e s m args below meth c s₁ B hml hno hv
  obtain ⟨rfl, hsz, hP, hKK, hD0, hKS, hKZ⟩ := hv
  have hK := hKK.1
  have hx := B.exec
  have hb := B.bytes
  have hr := B.returns
  have hts := atoms_spec (ws := wsX4_addSwitch) B.pre
  have hown : s.vm.findClass RX4 = some m.cls := findClass_of_methodNamed B.named
  have hlocks := B.notSynchronized
  subst hsz
  have hD := hD0.self (sz := s.heap.size)
  generalize hAe : va_A [(h_x, .inr (4, [.ref h_net, .ref a_now, .ref a_don, .ref a_wri, .ref a_per, .ref a_tho, .ref a_aft])), (h_net, .inr (1, [.ref h_ends, .int nc, .int sc, .int br, .int so, .int lo])), (h_ends, .inl (cI, 24, .inl ends))] s.heap.size = A at hD hKZ ⊢
  have hA : ∀ q : Nat, s.heap.size ≤ q → A q := fun q h => by rw [← hAe]; exact Or.inr h
  have hS : va_S A s.heap s.heap [] := va_S.rf
  have hl := lv_entry ([.ref h_x, .int p0, .int p1, .int p2]) (n := 4) (Nat.le_of_ble_eq_true rfl)
  rw [lg_entry_eq]
  generalize (lg_sl ([.ref h_x, .int p0, .int p1, .int p2]) ++ List.replicate (4 - (lg_sl ([.ref h_x, .int p0, .int p1, .int p2])).length) Slot.unset).toArray = ls at hl ⊢
  have hl : lv_has ls 4 [(0, .ref h_x), (1, .int p0), (2, .int p1), (3, .int p2)] := hl
  obtain ⟨QQ, hQQ⟩ : ∃ Z, Z = vx_MQ below (QT D (fun u => some (.int u.1)) A (fun u : (Int32) × (Nat → Int32) × (Int32) × (Int32) => [(h_x, .inr (4, [.ref h_net, .ref a_now, .ref a_don, .ref a_wri, .ref a_per, .ref a_tho, .ref a_aft])), (h_net, .inr (1, [.ref h_ends, .int nc, .int u.2.2.1, .int u.2.2.2, .int so, .int lo])), (h_ends, .inl (cI, 24, .inl u.2.1))]) R) (XT D A [(h_x, .inr (4, [.ref h_net, .ref a_now, .ref a_don, .ref a_wri, .ref a_per, .ref a_tho, .ref a_aft])), (h_net, .inr (1, [.ref h_ends, .int nc, .int sc, .int br, .int so, .int lo])), (h_ends, .inl (cI, 24, .inl ends))] R) ([.ref h_x, .int p0, .int p1, .int p2] : List Value).toArray s 3 18 A := ⟨_, rfl⟩
  rw [← hQQ]
  obtain ⟨H, locs, hHe, hLe⟩ : ∃ (H : Heap) (locs : List Loc), H = s.heap ∧ locs = [] := ⟨_, _, rfl, rfl⟩
  have hP : va_P D vwCl [(h_x, .inr (4, [.ref h_net, .ref a_now, .ref a_don, .ref a_wri, .ref a_per, .ref a_tho, .ref a_aft])), (h_net, .inr (1, [.ref h_ends, .int nc, .int sc, .int br, .int so, .int lo])), (h_ends, .inl (cI, 24, .inl ends))] H := by rw [hHe]; exact hP
  have hS : va_S A s.heap H locs := by rw [hHe, hLe]; exact hS
  have hW0 : ∀ QQ : State → Prop, W p l e (headSpec wsX4_addSwitch rmX4_addSwitch).room s m (([.ref h_x, .int p0, .int p1, .int p2] : List Value).toArray) below meth c H locs 0 0 QQ (F0 m 0 ls []) → W p l e (headSpec wsX4_addSwitch rmX4_addSwitch).room s m (([.ref h_x, .int p0, .int p1, .int p2] : List Value).toArray) below meth c s.heap [] 0 0 QQ (F0 m 0 ls []) := by rw [hHe, hLe]; exact fun _ h => h
  refine hW0 _ ?_
  clear hW0
  unfold fX4_addSwitch at h
  refine lv_aload_n hx hb dX4_addSwitch_0 rfl (lv_at hl 0 rfl) ?_
  refine lv_iload_n hx hb dX4_addSwitch_1 rfl (lv_at hl 1 rfl) ?_
  obtain ⟨R2, hq1, hx1, hk1⟩ := bx0_r h
  refine zz_xV (As := [.int p0]) (wr := [(h_ends, .inl (cI, 24, .inl ends))]) (w1 := fun u : Unit => [(h_x, .inr (4, [.ref h_net, .ref a_now, .ref a_don, .ref a_wri, .ref a_per, .ref a_tho, .ref a_aft])), (h_net, .inr (1, [.ref h_ends, .int nc, .int sc, .int br, .int so, .int lo]))]) (wt' := fun u : Unit => [(h_x, .inr (4, [.ref h_net, .ref a_now, .ref a_don, .ref a_wri, .ref a_per, .ref a_tho, .ref a_aft])), (h_net, .inr (1, [.ref h_ends, .int nc, .int sc, .int br, .int so, .int lo])), (h_ends, .inl (cI, 24, .inl ends))]) (wc := [(h_x, .inr (4, [.ref h_net, .ref a_now, .ref a_don, .ref a_wri, .ref a_per, .ref a_tho, .ref a_aft])), (h_net, .inr (1, [.ref h_ends, .int nc, .int sc, .int br, .int so, .int lo]))]) (rv := fun _ => none) ⟨hx, hb, hml, hown, hts⟩ (kX4_requireNode l hl0 D cI cZ cL H.size h_x a_now a_don a_wri a_per a_tho a_aft h_net h_ends nc sc br so lo p0 N hq1) (cwV 1 hts gX4_addSwitch_X4_requireNode rfl rfl rfl (by decide +kernel) ⟨Nat.le_of_ble_eq_true rfl, Nat.le_of_ble_eq_true rfl⟩) hP hD hS hA hKK hKS hKZ [0, 1] [2] [1, 2, 0] rfl rfl (by decide) (by decide) (fun _ => rfl) rfl (by decide) (by decide) (va_recv hK hP (ci := 4) (q0 := 0) rfl rfl) rfl hl.1 rfl (Nat.le_of_ble_eq_true rfl) dX4_addSwitch_2 ⟨Nat.le_of_ble_eq_true rfl, Nat.le_of_ble_eq_true rfl⟩ (fun E ce q9 H locs hE hP hD hS h1 h2 h3 => ?_) (fun u H locs hu hP hD hS => ?_)
  · have hE2 := hx1 E hE
    subst hE2
    rw [hQQ]
    exact vx_out (fun x hx => (hno x hx).elim) hlocks h1 h2 h3 (fun t ht hvm => zz_XT hP hD hS (by rw [ht]; exact Nat.le_refl _) (fun q _ => by rw [ht])) hS.2.2 (Nat.le_of_ble_eq_true rfl) (Nat.le_of_ble_eq_true rfl)
  · have h := hk1 _ hu
    have hP : va_P D vwCl [(h_x, .inr (4, [.ref h_net, .ref a_now, .ref a_don, .ref a_wri, .ref a_per, .ref a_tho, .ref a_aft])), (h_net, .inr (1, [.ref h_ends, .int nc, .int sc, .int br, .int so, .int lo])), (h_ends, .inl (cI, 24, .inl ends))] H := hP
    have hD : va_D A [(h_x, .inr (4, [.ref h_net, .ref a_now, .ref a_don, .ref a_wri, .ref a_per, .ref a_tho, .ref a_aft])), (h_net, .inr (1, [.ref h_ends, .int nc, .int sc, .int br, .int so, .int lo])), (h_ends, .inl (cI, 24, .inl ends))] := hD
    show W p l e _ s m _ below meth c H locs _ _ QQ (F0 m 5 ls ([]))
    refine lv_aload_n hx hb dX4_addSwitch_5 rfl (lv_at hl 0 rfl) ?_
    refine lv_iload_n hx hb dX4_addSwitch_6 rfl (lv_at hl 2 rfl) ?_
    obtain ⟨R4, hq3, hx1, hk1⟩ := bx0_r h
    refine zz_xV (As := [.int p1]) (wr := [(h_ends, .inl (cI, 24, .inl ends))]) (w1 := fun u : Unit => [(h_x, .inr (4, [.ref h_net, .ref a_now, .ref a_don, .ref a_wri, .ref a_per, .ref a_tho, .ref a_aft])), (h_net, .inr (1, [.ref h_ends, .int nc, .int sc, .int br, .int so, .int lo]))]) (wt' := fun u : Unit => [(h_x, .inr (4, [.ref h_net, .ref a_now, .ref a_don, .ref a_wri, .ref a_per, .ref a_tho, .ref a_aft])), (h_net, .inr (1, [.ref h_ends, .int nc, .int sc, .int br, .int so, .int lo])), (h_ends, .inl (cI, 24, .inl ends))]) (wc := [(h_x, .inr (4, [.ref h_net, .ref a_now, .ref a_don, .ref a_wri, .ref a_per, .ref a_tho, .ref a_aft])), (h_net, .inr (1, [.ref h_ends, .int nc, .int sc, .int br, .int so, .int lo]))]) (rv := fun _ => none) ⟨hx, hb, hml, hown, hts⟩ (kX4_requireNode l hl0 D cI cZ cL H.size h_x a_now a_don a_wri a_per a_tho a_aft h_net h_ends nc sc br so lo p1 N hq3) (cwV 1 hts gX4_addSwitch_X4_requireNode rfl rfl rfl (by decide +kernel) ⟨Nat.le_of_ble_eq_true rfl, Nat.le_of_ble_eq_true rfl⟩) hP hD hS hA hKK hKS hKZ [0, 1] [2] [1, 2, 0] rfl rfl (by decide) (by decide) (fun _ => rfl) rfl (by decide) (by decide) (va_recv hK hP (ci := 4) (q0 := 0) rfl rfl) rfl hl.1 rfl (Nat.le_of_ble_eq_true rfl) dX4_addSwitch_7 ⟨Nat.le_of_ble_eq_true rfl, Nat.le_of_ble_eq_true rfl⟩ (fun E ce q9 H locs hE hP hD hS h1 h2 h3 => ?_) (fun u H locs hu hP hD hS => ?_)
    · have hE2 := hx1 E hE
      subst hE2
      rw [hQQ]
      exact vx_out (fun x hx => (hno x hx).elim) hlocks h1 h2 h3 (fun t ht hvm => zz_XT hP hD hS (by rw [ht]; exact Nat.le_refl _) (fun q _ => by rw [ht])) hS.2.2 (Nat.le_of_ble_eq_true rfl) (Nat.le_of_ble_eq_true rfl)
    · have h := hk1 _ hu
      have hP : va_P D vwCl [(h_x, .inr (4, [.ref h_net, .ref a_now, .ref a_don, .ref a_wri, .ref a_per, .ref a_tho, .ref a_aft])), (h_net, .inr (1, [.ref h_ends, .int nc, .int sc, .int br, .int so, .int lo])), (h_ends, .inl (cI, 24, .inl ends))] H := hP
      have hD : va_D A [(h_x, .inr (4, [.ref h_net, .ref a_now, .ref a_don, .ref a_wri, .ref a_per, .ref a_tho, .ref a_aft])), (h_net, .inr (1, [.ref h_ends, .int nc, .int sc, .int br, .int so, .int lo])), (h_ends, .inl (cI, 24, .inl ends))] := hD
      show W p l e _ s m _ below meth c H locs _ _ QQ (F0 m 10 ls ([]))
      refine lv_iload_n hx hb dX4_addSwitch_10 rfl (lv_at hl 1 rfl) ?_
      refine lv_iload_n hx hb dX4_addSwitch_11 rfl (lv_at hl 2 rfl) ?_
      refine lv_icmp_ne (tgt := 25) hx hb dX4_addSwitch_12 (by decide) (fun c5 => ?_) (fun c5 => ?_)
      · have h := it_f h c5
        refine lv_aload_n hx hb dX4_addSwitch_25 rfl (lv_at hl 0 rfl) ?_
        refine va_get (D := D) (ci := 4) (v := .ref h_net) (C := RX4) (T := TX4) (N := 7) hx hb hts inX4_addSwitch_X4 hown hK hP 0 rfl rfl 0 (by decide) (hts _ lkX4_addSwitch_0) (fun _ h9 => h9) rfl dX4_addSwitch_26 ?_
        obtain ⟨v6, hq7, h⟩ := bd1_e h
        refine zz_cV (As := []) ⟨hx, hb, hml, hown, hts⟩ (kX1_switchCount l D cI cZ cL h_net h_ends nc sc br so lo N hq7) (cwV 0 hts gX4_addSwitch_X1_switchCount rfl rfl rfl (by decide +kernel) ⟨Nat.le_of_ble_eq_true rfl, Nat.le_of_ble_eq_true rfl⟩) (hP.sub (ws' := [(h_net, .inr (1, [.ref h_ends, .int nc, .int sc, .int br, .int so, .int lo]))]) [1] rfl) hKK (va_recv hK hP (ci := 1) (q0 := 1) rfl rfl) rfl hl.1 rfl (Nat.le_of_ble_eq_true rfl) dX4_addSwitch_29 ⟨Nat.le_of_ble_eq_true rfl, Nat.le_of_ble_eq_true rfl⟩ ?_
        refine lv_bipush (v := 24) hx hb dX4_addSwitch_32 (by decide) ?_
        refine lv_icmp_lt (tgt := 47) hx hb dX4_addSwitch_34 (by decide) (fun c8 => ?_) (fun c8 => ?_)
        · have h := it_t h c8
          refine lv_aload_n hx hb dX4_addSwitch_47 rfl (lv_at hl 0 rfl) ?_
          refine va_get (D := D) (ci := 4) (v := .ref h_net) (C := RX4) (T := TX4) (N := 7) hx hb hts inX4_addSwitch_X4 hown hK hP 0 rfl rfl 0 (by decide) (hts _ lkX4_addSwitch_0) (fun _ h9 => h9) rfl dX4_addSwitch_48 ?_
          refine lv_iload_n hx hb dX4_addSwitch_51 rfl (lv_at hl 1 rfl) ?_
          refine lv_iload_n hx hb dX4_addSwitch_52 rfl (lv_at hl 2 rfl) ?_
          refine lv_iload_n hx hb dX4_addSwitch_53 rfl (lv_at hl 3 rfl) ?_
          obtain ⟨v10, w11, w12, w13, hq9, h⟩ := bd4_e h
          refine zz_mV (As := [.int p0, .int p1, .int p2]) (wr := [(h_x, .inr (4, [.ref h_net, .ref a_now, .ref a_don, .ref a_wri, .ref a_per, .ref a_tho, .ref a_aft]))]) (w1 := [(h_net, .inr (1, [.ref h_ends, .int nc, .int w12, .int w13, .int so, .int lo])), (h_ends, .inl (cI, 24, .inl w11))]) (wt' := [(h_x, .inr (4, [.ref h_net, .ref a_now, .ref a_don, .ref a_wri, .ref a_per, .ref a_tho, .ref a_aft])), (h_net, .inr (1, [.ref h_ends, .int nc, .int w12, .int w13, .int so, .int lo])), (h_ends, .inl (cI, 24, .inl w11))]) (wc := [(h_net, .inr (1, [.ref h_ends, .int nc, .int sc, .int br, .int so, .int lo])), (h_ends, .inl (cI, 24, .inl ends))]) (rv := (some (.int v10))) ⟨hx, hb, hml, hown, hts⟩ (kX1_appendSwitch l D cI cZ cL H.size h_net h_ends nc sc br so lo ends p0 p1 p2 N hq9) (cwV 3 hts gX4_addSwitch_X1_appendSwitch rfl rfl rfl (by decide +kernel) ⟨Nat.le_of_ble_eq_true rfl, Nat.le_of_ble_eq_true rfl⟩) hP hD hS hA hKK [1, 2] [0] [0, 1, 2] rfl rfl (by decide) (by decide) rfl (by decide) (by decide) (va_recv hK hP (ci := 1) (q0 := 1) rfl rfl) rfl hl.1 rfl (Nat.le_of_ble_eq_true rfl) dX4_addSwitch_54 ⟨Nat.le_of_ble_eq_true rfl, Nat.le_of_ble_eq_true rfl⟩ (fun H locs hP hD hS hz9 => ?_)
          show W p l e _ s m _ below meth c H locs _ _ QQ (F0 m 57 ls (.int v10 :: []))
          cases h
          rw [hQQ]
          refine vx_ret ?_
          refine W.widen (k := 3) (n := 18) (Nat.le_of_ble_eq_true rfl) (Nat.le_of_ble_eq_true rfl) ?_
          exact W.iret hx hb hr (fun t ht hW => ⟨_, rfl, rfl, by rw [ht]; exact hP, hD, hS.F ht⟩) hS.2.2 dX4_addSwitch_57
        · have h := it_f h c8
          cases h
          obtain ⟨sa9, hsa9⟩ := hKS.1 (74, "there are 24 switches") (List.mem_of_getElem? (i := 2) rfl)
          rw [hQQ]
          exact vx_throwS hx hb hl0 (A := A) (own := RX4) (cls := "java/lang/IllegalStateException") (text := "there are 24 switches") (names := ["java/lang/RuntimeException", "java/lang/Exception"]) (ik := 52) (is := 74) (ic := 56) hown (by decide +kernel) (by decide +kernel) (hts _ lkX4_addSwitch_1) (hts _ lkX4_addSwitch_2) hsa9 (hKS.hat (fun w h => hts w (atX4_addSwitch_56 w h)) nb_RX4_56) (go_RX4_56 52) hKZ.1 hKZ.2 hS (hl.1.trans hml.symm) dX4_addSwitch_37 dX4_addSwitch_40 dX4_addSwitch_41 dX4_addSwitch_43 dX4_addSwitch_46 (fun x hx => (hno x hx).elim) (Nat.le_of_ble_eq_true rfl) (Nat.le_of_ble_eq_true rfl) (Nat.le_of_ble_eq_true rfl) (Nat.le_of_ble_eq_true rfl) hlocks (fun t ht hz hq => zz_XT hP hD hS hz hq) hS.2.2 (Nat.le_of_ble_eq_true rfl) (Nat.le_of_ble_eq_true rfl)
      · have h := it_t h c5
        cases h
        obtain ⟨sa9, hsa9⟩ := hKS.1 (68, "both nodes are the same") (List.mem_of_getElem? (i := 1) rfl)
        rw [hQQ]
        exact vx_throwS hx hb hl0 (A := A) (own := RX4) (cls := "java/lang/IllegalArgumentException") (text := "both nodes are the same") (names := ["java/lang/RuntimeException", "java/lang/Exception"]) (ik := 66) (is := 68) (ic := 70) hown (by decide +kernel) (by decide +kernel) (hts _ lkX4_addSwitch_3) (hts _ lkX4_addSwitch_4) hsa9 (hKS.hat (fun w h => hts w (atX4_addSwitch_70 w h)) nb_RX4_70) (go_RX4_70 66) hKZ.1 hKZ.2 hS (hl.1.trans hml.symm) dX4_addSwitch_15 dX4_addSwitch_18 dX4_addSwitch_19 dX4_addSwitch_21 dX4_addSwitch_24 (fun x hx => (hno x hx).elim) (Nat.le_of_ble_eq_true rfl) (Nat.le_of_ble_eq_true rfl) (Nat.le_of_ble_eq_true rfl) (Nat.le_of_ble_eq_true rfl) hlocks (fun t ht hz hq => zz_XT hP hD hS hz hq) hS.2.2 (Nat.le_of_ble_eq_true rfl) (Nat.le_of_ble_eq_true rfl)

def fX4_act (N : Nat) (nc : Int32) (sc : Int32) (br : Int32) (so : Int32) (lo : Int32) (ends : Nat → Int32) (cl : Int32) (ea : Int32) (on : Int32) (ds : Int32) (dac : Nat → Int32) (pg : Int32) (hol : Nat → Int32) (ac : Int32) (ae : Int32) (ao : Int32) (p0 : Int32) (p1 : Int32) : Option (String ⊕ ((Int32) × (Int32) × (Int32) × (Int32) × (Int32) × (Nat → Int32) × (Int32) × (Int32) × (Int32))) :=
  bx0 (fX4_requireAct N nc sc br so lo p0 p1) (bd1 (fX0_size N ds) (fun v3 => (if v3 < 200 then bd1 (fX4_actOf N  p0 p1) (fun v6 => bd9 (fX4_doAndLog N nc sc br so lo ends cl ea on ds dac pg hol ac ae ao v6) (fun v9 w10 w11 w12 w13 w14 w15 w16 w17 => some (.inr (v9, w10, w11, w12, w13, w14, w15, w16, w17)))) else some (.inl "java/lang/IllegalStateException"))))
set_option maxRecDepth 100000 in
theorem inX4_act_X4 : ∀ w ∈ wsX40, w ∈ wsX4_act := by decide +kernel
set_option maxRecDepth 100000 in
theorem lkX4_act_0 : (.fieldLink RX4 28 "Switchlog" "done" "LSwitchlog$ActRow;" : Cond) ∈ wsX4_act := by decide +kernel
set_option maxRecDepth 100000 in
theorem lkX4_act_1 : (.classLink RX4 52 "java/lang/IllegalStateException" : Cond) ∈ wsX4_act := by decide +kernel
set_option maxRecDepth 100000 in
theorem lkX4_act_2 : (.initialized "java/lang/IllegalStateException" : Cond) ∈ wsX4_act := by decide +kernel
set_option maxRecDepth 100000 in
theorem atX4_act_56 : ∀ w ∈ (vx_atS RX4 56 "java/lang/IllegalStateException" ["java/lang/RuntimeException", "java/lang/Exception"]).filter goodWord, w ∈ wsX4_act := by decide +kernel
abbrev rmX4_act : Room := { frames := 7, cells := 2, slots := 12, locals := 141 }
set_option maxHeartbeats 4000000 in
set_option maxRecDepth 100000 in
theorem kX4_act (l : Launch) (hl0 : l.stackTraces = false) (D : va_G) (cI cZ cL : ClassId) (sz0 : Nat) (h_x a_wri a_tho h_net h_ends h_now h_don h_dac h_per h_hol h_aft : Nat) (nc : Int32) (sc : Int32) (br : Int32) (so : Int32) (lo : Int32) (ends : Nat → Int32) (cl : Int32) (ea : Int32) (on : Int32) (ds : Int32) (dac : Nat → Int32) (pg : Int32) (hol : Nat → Int32) (ac : Int32) (ae : Int32) (ao : Int32) (p0 : Int32) (p1 : Int32) (N : Nat) {R : String ⊕ ((Int32) × (Int32) × (Int32) × (Int32) × (Int32) × (Nat → Int32) × (Int32) × (Int32) × (Int32))} (h : fX4_act N nc sc br so lo ends cl ea on ds dac pg hol ac ae ao p0 p1 = some R) : vx_Met l yX4_act wsX4_act rmX4_act (PT D cI cZ cL [.ref h_x, .int p0, .int p1] [(h_x, .inr (4, [.ref h_net, .ref h_now, .ref h_don, .ref a_wri, .ref h_per, .ref a_tho, .ref h_aft])), (h_net, .inr (1, [.ref h_ends, .int nc, .int sc, .int br, .int so, .int lo])), (h_ends, .inl (cI, 24, .inl ends)), (h_now, .inr (3, [.int cl, .int ea, .int on])), (h_don, .inr (0, [.ref h_dac, .int ds])), (h_dac, .inl (cI, 200, .inl dac)), (h_per, .inr (2, [.ref h_hol, .int pg])), (h_hol, .inl (cI, 10, .inl hol)), (h_aft, .inr (3, [.int ac, .int ae, .int ao]))] sz0) (QT D (fun u => some (.int u.1)) (va_A [(h_x, .inr (4, [.ref h_net, .ref h_now, .ref h_don, .ref a_wri, .ref h_per, .ref a_tho, .ref h_aft])), (h_net, .inr (1, [.ref h_ends, .int nc, .int sc, .int br, .int so, .int lo])), (h_ends, .inl (cI, 24, .inl ends)), (h_now, .inr (3, [.int cl, .int ea, .int on])), (h_don, .inr (0, [.ref h_dac, .int ds])), (h_dac, .inl (cI, 200, .inl dac)), (h_per, .inr (2, [.ref h_hol, .int pg])), (h_hol, .inl (cI, 10, .inl hol)), (h_aft, .inr (3, [.int ac, .int ae, .int ao]))] sz0) (fun u : (Int32) × (Int32) × (Int32) × (Int32) × (Int32) × (Nat → Int32) × (Int32) × (Int32) × (Int32) => [(h_x, .inr (4, [.ref h_net, .ref h_now, .ref h_don, .ref a_wri, .ref h_per, .ref a_tho, .ref h_aft])), (h_net, .inr (1, [.ref h_ends, .int nc, .int sc, .int br, .int so, .int lo])), (h_ends, .inl (cI, 24, .inl ends)), (h_now, .inr (3, [.int u.2.1, .int u.2.2.1, .int u.2.2.2.1])), (h_don, .inr (0, [.ref h_dac, .int u.2.2.2.2.1])), (h_dac, .inl (cI, 200, .inl u.2.2.2.2.2.1)), (h_per, .inr (2, [.ref h_hol, .int pg])), (h_hol, .inl (cI, 10, .inl hol)), (h_aft, .inr (3, [.int u.2.2.2.2.2.2.1, .int u.2.2.2.2.2.2.2.1, .int u.2.2.2.2.2.2.2.2]))]) R) (XT D (va_A [(h_x, .inr (4, [.ref h_net, .ref h_now, .ref h_don, .ref a_wri, .ref h_per, .ref a_tho, .ref h_aft])), (h_net, .inr (1, [.ref h_ends, .int nc, .int sc, .int br, .int so, .int lo])), (h_ends, .inl (cI, 24, .inl ends)), (h_now, .inr (3, [.int cl, .int ea, .int on])), (h_don, .inr (0, [.ref h_dac, .int ds])), (h_dac, .inl (cI, 200, .inl dac)), (h_per, .inr (2, [.ref h_hol, .int pg])), (h_hol, .inl (cI, 10, .inl hol)), (h_aft, .inr (3, [.int ac, .int ae, .int ao]))] sz0) [(h_x, .inr (4, [.ref h_net, .ref h_now, .ref h_don, .ref a_wri, .ref h_per, .ref a_tho, .ref h_aft])), (h_net, .inr (1, [.ref h_ends, .int nc, .int sc, .int br, .int so, .int lo])), (h_ends, .inl (cI, 24, .inl ends)), (h_now, .inr (3, [.int cl, .int ea, .int on])), (h_don, .inr (0, [.ref h_dac, .int ds])), (h_dac, .inl (cI, 200, .inl dac)), (h_per, .inr (2, [.ref h_hol, .int pg])), (h_hol, .inl (cI, 10, .inl hol)), (h_aft, .inr (3, [.int ac, .int ae, .int ao]))] R) 2 12 (va_A [(h_x, .inr (4, [.ref h_net, .ref h_now, .ref h_don, .ref a_wri, .ref h_per, .ref a_tho, .ref h_aft])), (h_net, .inr (1, [.ref h_ends, .int nc, .int sc, .int br, .int so, .int lo])), (h_ends, .inl (cI, 24, .inl ends)), (h_now, .inr (3, [.int cl, .int ea, .int on])), (h_don, .inr (0, [.ref h_dac, .int ds])), (h_dac, .inl (cI, 200, .inl dac)), (h_per, .inr (2, [.ref h_hol, .int pg])), (h_hol, .inl (cI, 10, .inl hol)), (h_aft, .inr (3, [.int ac, .int ae, .int ao]))] sz0) := by
  refine vx_ofW (cc := cX4_act) (maxL := 3) (ret := (some .int)) (by decide) rfl ?_
  intro p e s m args below meth c s₁ B hml hno hv
  obtain ⟨rfl, hsz, hP, hKK, hD0, hKS, hKZ⟩ := hv
  have hK := hKK.1
  have hx := B.exec
  have hb := B.bytes
  have hr := B.returns
  have hts := atoms_spec (ws := wsX4_act) B.pre
  have hown : s.vm.findClass RX4 = some m.cls := findClass_of_methodNamed B.named
  have hlocks := B.notSynchronized
  subst hsz
  have hD := hD0.self (sz := s.heap.size)
  generalize hAe : va_A [(h_x, .inr (4, [.ref h_net, .ref h_now, .ref h_don, .ref a_wri, .ref h_per, .ref a_tho, .ref h_aft])), (h_net, .inr (1, [.ref h_ends, .int nc, .int sc, .int br, .int so, .int lo])), (h_ends, .inl (cI, 24, .inl ends)), (h_now, .inr (3, [.int cl, .int ea, .int on])), (h_don, .inr (0, [.ref h_dac, .int ds])), (h_dac, .inl (cI, 200, .inl dac)), (h_per, .inr (2, [.ref h_hol, .int pg])), (h_hol, .inl (cI, 10, .inl hol)), (h_aft, .inr (3, [.int ac, .int ae, .int ao]))] s.heap.size = A at hD hKZ ⊢
  have hA : ∀ q : Nat, s.heap.size ≤ q → A q := fun q h => by rw [← hAe]; exact Or.inr h
  have hS : va_S A s.heap s.heap [] := va_S.rf
  have hl := lv_entry ([.ref h_x, .int p0, .int p1]) (n := 3) (Nat.le_of_ble_eq_true rfl)
  rw [lg_entry_eq]
  generalize (lg_sl ([.ref h_x, .int p0, .int p1]) ++ List.replicate (3 - (lg_sl ([.ref h_x, .int p0, .int p1])).length) Slot.unset).toArray = ls at hl ⊢
  have hl : lv_has ls 3 [(0, .ref h_x), (1, .int p0), (2, .int p1)] := hl
  obtain ⟨QQ, hQQ⟩ : ∃ Z, Z = vx_MQ below (QT D (fun u => some (.int u.1)) A (fun u : (Int32) × (Int32) × (Int32) × (Int32) × (Int32) × (Nat → Int32) × (Int32) × (Int32) × (Int32) => [(h_x, .inr (4, [.ref h_net, .ref h_now, .ref h_don, .ref a_wri, .ref h_per, .ref a_tho, .ref h_aft])), (h_net, .inr (1, [.ref h_ends, .int nc, .int sc, .int br, .int so, .int lo])), (h_ends, .inl (cI, 24, .inl ends)), (h_now, .inr (3, [.int u.2.1, .int u.2.2.1, .int u.2.2.2.1])), (h_don, .inr (0, [.ref h_dac, .int u.2.2.2.2.1])), (h_dac, .inl (cI, 200, .inl u.2.2.2.2.2.1)), (h_per, .inr (2, [.ref h_hol, .int pg])), (h_hol, .inl (cI, 10, .inl hol)), (h_aft, .inr (3, [.int u.2.2.2.2.2.2.1, .int u.2.2.2.2.2.2.2.1, .int u.2.2.2.2.2.2.2.2]))]) R) (XT D A [(h_x, .inr (4, [.ref h_net, .ref h_now, .ref h_don, .ref a_wri, .ref h_per, .ref a_tho, .ref h_aft])), (h_net, .inr (1, [.ref h_ends, .int nc, .int sc, .int br, .int so, .int lo])), (h_ends, .inl (cI, 24, .inl ends)), (h_now, .inr (3, [.int cl, .int ea, .int on])), (h_don, .inr (0, [.ref h_dac, .int ds])), (h_dac, .inl (cI, 200, .inl dac)), (h_per, .inr (2, [.ref h_hol, .int pg])), (h_hol, .inl (cI, 10, .inl hol)), (h_aft, .inr (3, [.int ac, .int ae, .int ao]))] R) ([.ref h_x, .int p0, .int p1] : List Value).toArray s 2 12 A := ⟨_, rfl⟩
  rw [← hQQ]
  obtain ⟨H, locs, hHe, hLe⟩ : ∃ (H : Heap) (locs : List Loc), H = s.heap ∧ locs = [] := ⟨_, _, rfl, rfl⟩
  have hP : va_P D vwCl [(h_x, .inr (4, [.ref h_net, .ref h_now, .ref h_don, .ref a_wri, .ref h_per, .ref a_tho, .ref h_aft])), (h_net, .inr (1, [.ref h_ends, .int nc, .int sc, .int br, .int so, .int lo])), (h_ends, .inl (cI, 24, .inl ends)), (h_now, .inr (3, [.int cl, .int ea, .int on])), (h_don, .inr (0, [.ref h_dac, .int ds])), (h_dac, .inl (cI, 200, .inl dac)), (h_per, .inr (2, [.ref h_hol, .int pg])), (h_hol, .inl (cI, 10, .inl hol)), (h_aft, .inr (3, [.int ac, .int ae, .int ao]))] H := by rw [hHe]; exact hP
  have hS : va_S A s.heap H locs := by rw [hHe, hLe]; exact hS
  have hW0 : ∀ QQ : State → Prop, W p l e (headSpec wsX4_act rmX4_act).room s m (([.ref h_x, .int p0, .int p1] : List Value).toArray) below meth c H locs 0 0 QQ (F0 m 0 ls []) → W p l e (headSpec wsX4_act rmX4_act).room s m (([.ref h_x, .int p0, .int p1] : List Value).toArray) below meth c s.heap [] 0 0 QQ (F0 m 0 ls []) := by rw [hHe, hLe]; exact fun _ h => h
  refine hW0 _ ?_
  clear hW0
  unfold fX4_act at h
  refine lv_aload_n hx hb dX4_act_0 rfl (lv_at hl 0 rfl) ?_
  refine lv_iload_n hx hb dX4_act_1 rfl (lv_at hl 1 rfl) ?_
  refine lv_iload_n hx hb dX4_act_2 rfl (lv_at hl 2 rfl) ?_
  obtain ⟨R2, hq1, hx1, hk1⟩ := bx0_r h
  refine zz_xV (As := [.int p0, .int p1]) (wr := [(h_ends, .inl (cI, 24, .inl ends)), (h_now, .inr (3, [.int cl, .int ea, .int on])), (h_don, .inr (0, [.ref h_dac, .int ds])), (h_dac, .inl (cI, 200, .inl dac)), (h_per, .inr (2, [.ref h_hol, .int pg])), (h_hol, .inl (cI, 10, .inl hol)), (h_aft, .inr (3, [.int ac, .int ae, .int ao]))]) (w1 := fun u : Unit => [(h_x, .inr (4, [.ref h_net, .ref h_now, .ref h_don, .ref a_wri, .ref h_per, .ref a_tho, .ref h_aft])), (h_net, .inr (1, [.ref h_ends, .int nc, .int sc, .int br, .int so, .int lo]))]) (wt' := fun u : Unit => [(h_x, .inr (4, [.ref h_net, .ref h_now, .ref h_don, .ref a_wri, .ref h_per, .ref a_tho, .ref h_aft])), (h_net, .inr (1, [.ref h_ends, .int nc, .int sc, .int br, .int so, .int lo])), (h_ends, .inl (cI, 24, .inl ends)), (h_now, .inr (3, [.int cl, .int ea, .int on])), (h_don, .inr (0, [.ref h_dac, .int ds])), (h_dac, .inl (cI, 200, .inl dac)), (h_per, .inr (2, [.ref h_hol, .int pg])), (h_hol, .inl (cI, 10, .inl hol)), (h_aft, .inr (3, [.int ac, .int ae, .int ao]))]) (wc := [(h_x, .inr (4, [.ref h_net, .ref h_now, .ref h_don, .ref a_wri, .ref h_per, .ref a_tho, .ref h_aft])), (h_net, .inr (1, [.ref h_ends, .int nc, .int sc, .int br, .int so, .int lo]))]) (rv := fun _ => none) ⟨hx, hb, hml, hown, hts⟩ (kX4_requireAct l hl0 D cI cZ cL H.size h_x h_now h_don a_wri h_per a_tho h_aft h_net h_ends nc sc br so lo p0 p1 N hq1) (cwV 2 hts gX4_act_X4_requireAct rfl rfl rfl (by decide +kernel) ⟨Nat.le_of_ble_eq_true rfl, Nat.le_of_ble_eq_true rfl⟩) hP hD hS hA hKK hKS hKZ [0, 1] [2, 3, 4, 5, 6, 7, 8] [7, 8, 0, 1, 2, 3, 4, 5, 6] rfl rfl (by decide) (by decide) (fun _ => rfl) rfl (by decide) (by decide) (va_recv hK hP (ci := 4) (q0 := 0) rfl rfl) rfl hl.1 rfl (Nat.le_of_ble_eq_true rfl) dX4_act_3 ⟨Nat.le_of_ble_eq_true rfl, Nat.le_of_ble_eq_true rfl⟩ (fun E ce q9 H locs hE hP hD hS h1 h2 h3 => ?_) (fun u H locs hu hP hD hS => ?_)
  · have hE2 := hx1 E hE
    subst hE2
    rw [hQQ]
    exact vx_out (fun x hx => (hno x hx).elim) hlocks h1 h2 h3 (fun t ht hvm => zz_XT hP hD hS (by rw [ht]; exact Nat.le_refl _) (fun q _ => by rw [ht])) hS.2.2 (Nat.le_of_ble_eq_true rfl) (Nat.le_of_ble_eq_true rfl)
  · have h := hk1 _ hu
    have hP : va_P D vwCl [(h_x, .inr (4, [.ref h_net, .ref h_now, .ref h_don, .ref a_wri, .ref h_per, .ref a_tho, .ref h_aft])), (h_net, .inr (1, [.ref h_ends, .int nc, .int sc, .int br, .int so, .int lo])), (h_ends, .inl (cI, 24, .inl ends)), (h_now, .inr (3, [.int cl, .int ea, .int on])), (h_don, .inr (0, [.ref h_dac, .int ds])), (h_dac, .inl (cI, 200, .inl dac)), (h_per, .inr (2, [.ref h_hol, .int pg])), (h_hol, .inl (cI, 10, .inl hol)), (h_aft, .inr (3, [.int ac, .int ae, .int ao]))] H := hP
    have hD : va_D A [(h_x, .inr (4, [.ref h_net, .ref h_now, .ref h_don, .ref a_wri, .ref h_per, .ref a_tho, .ref h_aft])), (h_net, .inr (1, [.ref h_ends, .int nc, .int sc, .int br, .int so, .int lo])), (h_ends, .inl (cI, 24, .inl ends)), (h_now, .inr (3, [.int cl, .int ea, .int on])), (h_don, .inr (0, [.ref h_dac, .int ds])), (h_dac, .inl (cI, 200, .inl dac)), (h_per, .inr (2, [.ref h_hol, .int pg])), (h_hol, .inl (cI, 10, .inl hol)), (h_aft, .inr (3, [.int ac, .int ae, .int ao]))] := hD
    show W p l e _ s m _ below meth c H locs _ _ QQ (F0 m 6 ls ([]))
    refine lv_aload_n hx hb dX4_act_6 rfl (lv_at hl 0 rfl) ?_
    refine va_get (D := D) (ci := 4) (v := .ref h_don) (C := RX4) (T := TX4) (N := 7) hx hb hts inX4_act_X4 hown hK hP 0 rfl rfl 2 (by decide) (hts _ lkX4_act_0) (fun _ h9 => h9) rfl dX4_act_7 ?_
    obtain ⟨v3, hq4, h⟩ := bd1_e h
    refine zz_cV (As := []) ⟨hx, hb, hml, hown, hts⟩ (kX0_size l D cI cZ cL h_don h_dac ds N hq4) (cwV 0 hts gX4_act_X0_size rfl rfl rfl (by decide +kernel) ⟨Nat.le_of_ble_eq_true rfl, Nat.le_of_ble_eq_true rfl⟩) (hP.sub (ws' := [(h_don, .inr (0, [.ref h_dac, .int ds]))]) [4] rfl) hKK (va_recv hK hP (ci := 0) (q0 := 4) rfl rfl) rfl hl.1 rfl (Nat.le_of_ble_eq_true rfl) dX4_act_10 ⟨Nat.le_of_ble_eq_true rfl, Nat.le_of_ble_eq_true rfl⟩ ?_
    refine lv_sipush (v := 200) hx hb dX4_act_13 (by decide) ?_
    refine lv_icmp_lt (tgt := 29) hx hb dX4_act_16 (by decide) (fun c5 => ?_) (fun c5 => ?_)
    · have h := it_t h c5
      refine lv_aload_n hx hb dX4_act_29 rfl (lv_at hl 0 rfl) ?_
      refine lv_iload_n hx hb dX4_act_30 rfl (lv_at hl 1 rfl) ?_
      refine lv_iload_n hx hb dX4_act_31 rfl (lv_at hl 2 rfl) ?_
      obtain ⟨v6, hq7, h⟩ := bd1_e h
      refine zz_cS (As := [.int p0, .int p1]) ⟨hx, hb, hml, hown, hts⟩ (kX4_actOf l D cI cZ cL p0 p1 N hq7) (va_cwS 2 hts gX4_act_X4_actOf rfl rfl rfl (by decide +kernel) ⟨Nat.le_of_ble_eq_true rfl, Nat.le_of_ble_eq_true rfl⟩) (hP.sub (ws' := []) [] rfl) hKK rfl hl.1 rfl (Nat.le_of_ble_eq_true rfl) dX4_act_32 ⟨Nat.le_of_ble_eq_true rfl, Nat.le_of_ble_eq_true rfl⟩ ?_
      obtain ⟨v9, w10, w11, w12, w13, w14, w15, w16, w17, hq8, h⟩ := bd9_e h
      refine zz_mV (As := [.int v6]) (wr := []) (w1 := [(h_x, .inr (4, [.ref h_net, .ref h_now, .ref h_don, .ref a_wri, .ref h_per, .ref a_tho, .ref h_aft])), (h_net, .inr (1, [.ref h_ends, .int nc, .int sc, .int br, .int so, .int lo])), (h_ends, .inl (cI, 24, .inl ends)), (h_now, .inr (3, [.int w10, .int w11, .int w12])), (h_don, .inr (0, [.ref h_dac, .int w13])), (h_dac, .inl (cI, 200, .inl w14)), (h_per, .inr (2, [.ref h_hol, .int pg])), (h_hol, .inl (cI, 10, .inl hol)), (h_aft, .inr (3, [.int w15, .int w16, .int w17]))]) (wt' := [(h_x, .inr (4, [.ref h_net, .ref h_now, .ref h_don, .ref a_wri, .ref h_per, .ref a_tho, .ref h_aft])), (h_net, .inr (1, [.ref h_ends, .int nc, .int sc, .int br, .int so, .int lo])), (h_ends, .inl (cI, 24, .inl ends)), (h_now, .inr (3, [.int w10, .int w11, .int w12])), (h_don, .inr (0, [.ref h_dac, .int w13])), (h_dac, .inl (cI, 200, .inl w14)), (h_per, .inr (2, [.ref h_hol, .int pg])), (h_hol, .inl (cI, 10, .inl hol)), (h_aft, .inr (3, [.int w15, .int w16, .int w17]))]) (wc := [(h_x, .inr (4, [.ref h_net, .ref h_now, .ref h_don, .ref a_wri, .ref h_per, .ref a_tho, .ref h_aft])), (h_net, .inr (1, [.ref h_ends, .int nc, .int sc, .int br, .int so, .int lo])), (h_ends, .inl (cI, 24, .inl ends)), (h_now, .inr (3, [.int cl, .int ea, .int on])), (h_don, .inr (0, [.ref h_dac, .int ds])), (h_dac, .inl (cI, 200, .inl dac)), (h_per, .inr (2, [.ref h_hol, .int pg])), (h_hol, .inl (cI, 10, .inl hol)), (h_aft, .inr (3, [.int ac, .int ae, .int ao]))]) (rv := (some (.int v9))) ⟨hx, hb, hml, hown, hts⟩ (kX4_doAndLog l D cI cZ cL H.size h_x a_wri a_tho h_net h_ends h_now h_don h_dac h_per h_hol h_aft nc sc br so lo ends cl ea on ds dac pg hol ac ae ao v6 N hq8) (cwV 1 hts gX4_act_X4_doAndLog rfl rfl rfl (by decide +kernel) ⟨Nat.le_of_ble_eq_true rfl, Nat.le_of_ble_eq_true rfl⟩) hP hD hS hA hKK [0, 1, 2, 3, 4, 5, 6, 7, 8] [] [0, 1, 2, 3, 4, 5, 6, 7, 8] rfl rfl (by decide) (by decide) rfl (by decide) (by decide) (va_recv hK hP (ci := 4) (q0 := 0) rfl rfl) rfl hl.1 rfl (Nat.le_of_ble_eq_true rfl) dX4_act_35 ⟨Nat.le_of_ble_eq_true rfl, Nat.le_of_ble_eq_true rfl⟩ (fun H locs hP hD hS hz9 => ?_)
      show W p l e _ s m _ below meth c H locs _ _ QQ (F0 m 38 ls (.int v9 :: []))
      cases h
      rw [hQQ]
      refine vx_ret ?_
      refine W.widen (k := 2) (n := 12) (Nat.le_of_ble_eq_true rfl) (Nat.le_of_ble_eq_true rfl) ?_
      exact W.iret hx hb hr (fun t ht hW => ⟨_, rfl, rfl, by rw [ht]; exact hP, hD, hS.F ht⟩) hS.2.2 dX4_act_38
    · have h := it_f h c5
      cases h
      obtain ⟨sa9, hsa9⟩ := hKS.1 (87, "the log has 200 acts") (List.mem_of_getElem? (i := 3) rfl)
      rw [hQQ]
      exact vx_throwS hx hb hl0 (A := A) (own := RX4) (cls := "java/lang/IllegalStateException") (text := "the log has 200 acts") (names := ["java/lang/RuntimeException", "java/lang/Exception"]) (ik := 52) (is := 87) (ic := 56) hown (by decide +kernel) (by decide +kernel) (hts _ lkX4_act_1) (hts _ lkX4_act_2) hsa9 (hKS.hat (fun w h => hts w (atX4_act_56 w h)) nb_RX4_56) (go_RX4_56 52) hKZ.1 hKZ.2 hS (hl.1.trans hml.symm) dX4_act_19 dX4_act_22 dX4_act_23 dX4_act_25 dX4_act_28 (fun x hx => (hno x hx).elim) (Nat.le_of_ble_eq_true rfl) (Nat.le_of_ble_eq_true rfl) (Nat.le_of_ble_eq_true rfl) (Nat.le_of_ble_eq_true rfl) hlocks (fun t ht hz hq => zz_XT hP hD hS hz hq) hS.2.2 (Nat.le_of_ble_eq_true rfl) (Nat.le_of_ble_eq_true rfl)

def fX4_reason (N : Nat) (nc : Int32) (sc : Int32) (br : Int32) (so : Int32) (lo : Int32) (ends : Nat → Int32) (cl : Int32) (ea : Int32) (on : Int32) (pg : Int32) (hol : Nat → Int32) (ac : Int32) (ae : Int32) (ao : Int32) (p0 : Int32) (p1 : Int32) : Option (String ⊕ ((Int32) × (Int32) × (Int32) × (Int32))) :=
  bx0 (fX4_requireAct N nc sc br so lo p0 p1) (bd4 (fX4_reasonIn N nc sc br so lo ends pg hol cl ea on ac ae ao p0 p1) (fun v4 w5 w6 w7 => some (.inr (v4, w5, w6, w7))))
set_option maxRecDepth 100000 in
theorem inX4_reason_X4 : ∀ w ∈ wsX40, w ∈ wsX4_reason := by decide +kernel
set_option maxRecDepth 100000 in
theorem lkX4_reason_0 : (.fieldLink RX4 19 "Switchlog" "now" "LSwitchlog$State;" : Cond) ∈ wsX4_reason := by decide +kernel
abbrev rmX4_reason : Room := { frames := 7, cells := 1, slots := 6, locals := 119 }
set_option maxHeartbeats 4000000 in
set_option maxRecDepth 100000 in
theorem kX4_reason (l : Launch) (hl0 : l.stackTraces = false) (D : va_G) (cI cZ cL : ClassId) (sz0 : Nat) (h_x a_don a_wri a_tho h_net h_ends h_now h_per h_hol h_aft : Nat) (nc : Int32) (sc : Int32) (br : Int32) (so : Int32) (lo : Int32) (ends : Nat → Int32) (cl : Int32) (ea : Int32) (on : Int32) (pg : Int32) (hol : Nat → Int32) (ac : Int32) (ae : Int32) (ao : Int32) (p0 : Int32) (p1 : Int32) (N : Nat) {R : String ⊕ ((Int32) × (Int32) × (Int32) × (Int32))} (h : fX4_reason N nc sc br so lo ends cl ea on pg hol ac ae ao p0 p1 = some R) : vx_Met l yX4_reason wsX4_reason rmX4_reason (PT D cI cZ cL [.ref h_x, .int p0, .int p1] [(h_x, .inr (4, [.ref h_net, .ref h_now, .ref a_don, .ref a_wri, .ref h_per, .ref a_tho, .ref h_aft])), (h_net, .inr (1, [.ref h_ends, .int nc, .int sc, .int br, .int so, .int lo])), (h_ends, .inl (cI, 24, .inl ends)), (h_now, .inr (3, [.int cl, .int ea, .int on])), (h_per, .inr (2, [.ref h_hol, .int pg])), (h_hol, .inl (cI, 10, .inl hol)), (h_aft, .inr (3, [.int ac, .int ae, .int ao]))] sz0) (QT D (fun u => some (.int u.1)) (va_A [(h_x, .inr (4, [.ref h_net, .ref h_now, .ref a_don, .ref a_wri, .ref h_per, .ref a_tho, .ref h_aft])), (h_net, .inr (1, [.ref h_ends, .int nc, .int sc, .int br, .int so, .int lo])), (h_ends, .inl (cI, 24, .inl ends)), (h_now, .inr (3, [.int cl, .int ea, .int on])), (h_per, .inr (2, [.ref h_hol, .int pg])), (h_hol, .inl (cI, 10, .inl hol)), (h_aft, .inr (3, [.int ac, .int ae, .int ao]))] sz0) (fun u : (Int32) × (Int32) × (Int32) × (Int32) => [(h_x, .inr (4, [.ref h_net, .ref h_now, .ref a_don, .ref a_wri, .ref h_per, .ref a_tho, .ref h_aft])), (h_net, .inr (1, [.ref h_ends, .int nc, .int sc, .int br, .int so, .int lo])), (h_ends, .inl (cI, 24, .inl ends)), (h_now, .inr (3, [.int cl, .int ea, .int on])), (h_per, .inr (2, [.ref h_hol, .int pg])), (h_hol, .inl (cI, 10, .inl hol)), (h_aft, .inr (3, [.int u.2.1, .int u.2.2.1, .int u.2.2.2]))]) R) (XT D (va_A [(h_x, .inr (4, [.ref h_net, .ref h_now, .ref a_don, .ref a_wri, .ref h_per, .ref a_tho, .ref h_aft])), (h_net, .inr (1, [.ref h_ends, .int nc, .int sc, .int br, .int so, .int lo])), (h_ends, .inl (cI, 24, .inl ends)), (h_now, .inr (3, [.int cl, .int ea, .int on])), (h_per, .inr (2, [.ref h_hol, .int pg])), (h_hol, .inl (cI, 10, .inl hol)), (h_aft, .inr (3, [.int ac, .int ae, .int ao]))] sz0) [(h_x, .inr (4, [.ref h_net, .ref h_now, .ref a_don, .ref a_wri, .ref h_per, .ref a_tho, .ref h_aft])), (h_net, .inr (1, [.ref h_ends, .int nc, .int sc, .int br, .int so, .int lo])), (h_ends, .inl (cI, 24, .inl ends)), (h_now, .inr (3, [.int cl, .int ea, .int on])), (h_per, .inr (2, [.ref h_hol, .int pg])), (h_hol, .inl (cI, 10, .inl hol)), (h_aft, .inr (3, [.int ac, .int ae, .int ao]))] R) 1 6 (va_A [(h_x, .inr (4, [.ref h_net, .ref h_now, .ref a_don, .ref a_wri, .ref h_per, .ref a_tho, .ref h_aft])), (h_net, .inr (1, [.ref h_ends, .int nc, .int sc, .int br, .int so, .int lo])), (h_ends, .inl (cI, 24, .inl ends)), (h_now, .inr (3, [.int cl, .int ea, .int on])), (h_per, .inr (2, [.ref h_hol, .int pg])), (h_hol, .inl (cI, 10, .inl hol)), (h_aft, .inr (3, [.int ac, .int ae, .int ao]))] sz0) := by
  refine vx_ofW (cc := cX4_reason) (maxL := 3) (ret := (some .int)) (by decide) rfl ?_
  intro p e s m args below meth c s₁ B hml hno hv
  obtain ⟨rfl, hsz, hP, hKK, hD0, hKS, hKZ⟩ := hv
  have hK := hKK.1
  have hx := B.exec
  have hb := B.bytes
  have hr := B.returns
  have hts := atoms_spec (ws := wsX4_reason) B.pre
  have hown : s.vm.findClass RX4 = some m.cls := findClass_of_methodNamed B.named
  have hlocks := B.notSynchronized
  subst hsz
  have hD := hD0.self (sz := s.heap.size)
  generalize hAe : va_A [(h_x, .inr (4, [.ref h_net, .ref h_now, .ref a_don, .ref a_wri, .ref h_per, .ref a_tho, .ref h_aft])), (h_net, .inr (1, [.ref h_ends, .int nc, .int sc, .int br, .int so, .int lo])), (h_ends, .inl (cI, 24, .inl ends)), (h_now, .inr (3, [.int cl, .int ea, .int on])), (h_per, .inr (2, [.ref h_hol, .int pg])), (h_hol, .inl (cI, 10, .inl hol)), (h_aft, .inr (3, [.int ac, .int ae, .int ao]))] s.heap.size = A at hD hKZ ⊢
  have hA : ∀ q : Nat, s.heap.size ≤ q → A q := fun q h => by rw [← hAe]; exact Or.inr h
  have hS : va_S A s.heap s.heap [] := va_S.rf
  have hl := lv_entry ([.ref h_x, .int p0, .int p1]) (n := 3) (Nat.le_of_ble_eq_true rfl)
  rw [lg_entry_eq]
  generalize (lg_sl ([.ref h_x, .int p0, .int p1]) ++ List.replicate (3 - (lg_sl ([.ref h_x, .int p0, .int p1])).length) Slot.unset).toArray = ls at hl ⊢
  have hl : lv_has ls 3 [(0, .ref h_x), (1, .int p0), (2, .int p1)] := hl
  obtain ⟨QQ, hQQ⟩ : ∃ Z, Z = vx_MQ below (QT D (fun u => some (.int u.1)) A (fun u : (Int32) × (Int32) × (Int32) × (Int32) => [(h_x, .inr (4, [.ref h_net, .ref h_now, .ref a_don, .ref a_wri, .ref h_per, .ref a_tho, .ref h_aft])), (h_net, .inr (1, [.ref h_ends, .int nc, .int sc, .int br, .int so, .int lo])), (h_ends, .inl (cI, 24, .inl ends)), (h_now, .inr (3, [.int cl, .int ea, .int on])), (h_per, .inr (2, [.ref h_hol, .int pg])), (h_hol, .inl (cI, 10, .inl hol)), (h_aft, .inr (3, [.int u.2.1, .int u.2.2.1, .int u.2.2.2]))]) R) (XT D A [(h_x, .inr (4, [.ref h_net, .ref h_now, .ref a_don, .ref a_wri, .ref h_per, .ref a_tho, .ref h_aft])), (h_net, .inr (1, [.ref h_ends, .int nc, .int sc, .int br, .int so, .int lo])), (h_ends, .inl (cI, 24, .inl ends)), (h_now, .inr (3, [.int cl, .int ea, .int on])), (h_per, .inr (2, [.ref h_hol, .int pg])), (h_hol, .inl (cI, 10, .inl hol)), (h_aft, .inr (3, [.int ac, .int ae, .int ao]))] R) ([.ref h_x, .int p0, .int p1] : List Value).toArray s 1 6 A := ⟨_, rfl⟩
  rw [← hQQ]
  obtain ⟨H, locs, hHe, hLe⟩ : ∃ (H : Heap) (locs : List Loc), H = s.heap ∧ locs = [] := ⟨_, _, rfl, rfl⟩
  have hP : va_P D vwCl [(h_x, .inr (4, [.ref h_net, .ref h_now, .ref a_don, .ref a_wri, .ref h_per, .ref a_tho, .ref h_aft])), (h_net, .inr (1, [.ref h_ends, .int nc, .int sc, .int br, .int so, .int lo])), (h_ends, .inl (cI, 24, .inl ends)), (h_now, .inr (3, [.int cl, .int ea, .int on])), (h_per, .inr (2, [.ref h_hol, .int pg])), (h_hol, .inl (cI, 10, .inl hol)), (h_aft, .inr (3, [.int ac, .int ae, .int ao]))] H := by rw [hHe]; exact hP
  have hS : va_S A s.heap H locs := by rw [hHe, hLe]; exact hS
  have hW0 : ∀ QQ : State → Prop, W p l e (headSpec wsX4_reason rmX4_reason).room s m (([.ref h_x, .int p0, .int p1] : List Value).toArray) below meth c H locs 0 0 QQ (F0 m 0 ls []) → W p l e (headSpec wsX4_reason rmX4_reason).room s m (([.ref h_x, .int p0, .int p1] : List Value).toArray) below meth c s.heap [] 0 0 QQ (F0 m 0 ls []) := by rw [hHe, hLe]; exact fun _ h => h
  refine hW0 _ ?_
  clear hW0
  unfold fX4_reason at h
  refine lv_aload_n hx hb dX4_reason_0 rfl (lv_at hl 0 rfl) ?_
  refine lv_iload_n hx hb dX4_reason_1 rfl (lv_at hl 1 rfl) ?_
  refine lv_iload_n hx hb dX4_reason_2 rfl (lv_at hl 2 rfl) ?_
  obtain ⟨R2, hq1, hx1, hk1⟩ := bx0_r h
  refine zz_xV (As := [.int p0, .int p1]) (wr := [(h_ends, .inl (cI, 24, .inl ends)), (h_now, .inr (3, [.int cl, .int ea, .int on])), (h_per, .inr (2, [.ref h_hol, .int pg])), (h_hol, .inl (cI, 10, .inl hol)), (h_aft, .inr (3, [.int ac, .int ae, .int ao]))]) (w1 := fun u : Unit => [(h_x, .inr (4, [.ref h_net, .ref h_now, .ref a_don, .ref a_wri, .ref h_per, .ref a_tho, .ref h_aft])), (h_net, .inr (1, [.ref h_ends, .int nc, .int sc, .int br, .int so, .int lo]))]) (wt' := fun u : Unit => [(h_x, .inr (4, [.ref h_net, .ref h_now, .ref a_don, .ref a_wri, .ref h_per, .ref a_tho, .ref h_aft])), (h_net, .inr (1, [.ref h_ends, .int nc, .int sc, .int br, .int so, .int lo])), (h_ends, .inl (cI, 24, .inl ends)), (h_now, .inr (3, [.int cl, .int ea, .int on])), (h_per, .inr (2, [.ref h_hol, .int pg])), (h_hol, .inl (cI, 10, .inl hol)), (h_aft, .inr (3, [.int ac, .int ae, .int ao]))]) (wc := [(h_x, .inr (4, [.ref h_net, .ref h_now, .ref a_don, .ref a_wri, .ref h_per, .ref a_tho, .ref h_aft])), (h_net, .inr (1, [.ref h_ends, .int nc, .int sc, .int br, .int so, .int lo]))]) (rv := fun _ => none) ⟨hx, hb, hml, hown, hts⟩ (kX4_requireAct l hl0 D cI cZ cL H.size h_x h_now a_don a_wri h_per a_tho h_aft h_net h_ends nc sc br so lo p0 p1 N hq1) (cwV 2 hts gX4_reason_X4_requireAct rfl rfl rfl (by decide +kernel) ⟨Nat.le_of_ble_eq_true rfl, Nat.le_of_ble_eq_true rfl⟩) hP hD hS hA hKK hKS hKZ [0, 1] [2, 3, 4, 5, 6] [5, 6, 0, 1, 2, 3, 4] rfl rfl (by decide) (by decide) (fun _ => rfl) rfl (by decide) (by decide) (va_recv hK hP (ci := 4) (q0 := 0) rfl rfl) rfl hl.1 rfl (Nat.le_of_ble_eq_true rfl) dX4_reason_3 ⟨Nat.le_of_ble_eq_true rfl, Nat.le_of_ble_eq_true rfl⟩ (fun E ce q9 H locs hE hP hD hS h1 h2 h3 => ?_) (fun u H locs hu hP hD hS => ?_)
  · have hE2 := hx1 E hE
    subst hE2
    rw [hQQ]
    exact vx_out (fun x hx => (hno x hx).elim) hlocks h1 h2 h3 (fun t ht hvm => zz_XT hP hD hS (by rw [ht]; exact Nat.le_refl _) (fun q _ => by rw [ht])) hS.2.2 (Nat.le_of_ble_eq_true rfl) (Nat.le_of_ble_eq_true rfl)
  · have h := hk1 _ hu
    have hP : va_P D vwCl [(h_x, .inr (4, [.ref h_net, .ref h_now, .ref a_don, .ref a_wri, .ref h_per, .ref a_tho, .ref h_aft])), (h_net, .inr (1, [.ref h_ends, .int nc, .int sc, .int br, .int so, .int lo])), (h_ends, .inl (cI, 24, .inl ends)), (h_now, .inr (3, [.int cl, .int ea, .int on])), (h_per, .inr (2, [.ref h_hol, .int pg])), (h_hol, .inl (cI, 10, .inl hol)), (h_aft, .inr (3, [.int ac, .int ae, .int ao]))] H := hP
    have hD : va_D A [(h_x, .inr (4, [.ref h_net, .ref h_now, .ref a_don, .ref a_wri, .ref h_per, .ref a_tho, .ref h_aft])), (h_net, .inr (1, [.ref h_ends, .int nc, .int sc, .int br, .int so, .int lo])), (h_ends, .inl (cI, 24, .inl ends)), (h_now, .inr (3, [.int cl, .int ea, .int on])), (h_per, .inr (2, [.ref h_hol, .int pg])), (h_hol, .inl (cI, 10, .inl hol)), (h_aft, .inr (3, [.int ac, .int ae, .int ao]))] := hD
    show W p l e _ s m _ below meth c H locs _ _ QQ (F0 m 6 ls ([]))
    refine lv_aload_n hx hb dX4_reason_6 rfl (lv_at hl 0 rfl) ?_
    refine lv_aload_n hx hb dX4_reason_7 rfl (lv_at hl 0 rfl) ?_
    refine va_get (D := D) (ci := 4) (v := .ref h_now) (C := RX4) (T := TX4) (N := 7) hx hb hts inX4_reason_X4 hown hK hP 0 rfl rfl 1 (by decide) (hts _ lkX4_reason_0) (fun _ h9 => h9) rfl dX4_reason_8 ?_
    refine lv_iload_n hx hb dX4_reason_11 rfl (lv_at hl 1 rfl) ?_
    refine lv_iload_n hx hb dX4_reason_12 rfl (lv_at hl 2 rfl) ?_
    obtain ⟨v4, w5, w6, w7, hq3, h⟩ := bd4_e h
    refine zz_mV (As := [.ref h_now, .int p0, .int p1]) (wr := []) (w1 := [(h_x, .inr (4, [.ref h_net, .ref h_now, .ref a_don, .ref a_wri, .ref h_per, .ref a_tho, .ref h_aft])), (h_net, .inr (1, [.ref h_ends, .int nc, .int sc, .int br, .int so, .int lo])), (h_ends, .inl (cI, 24, .inl ends)), (h_per, .inr (2, [.ref h_hol, .int pg])), (h_hol, .inl (cI, 10, .inl hol)), (h_now, .inr (3, [.int cl, .int ea, .int on])), (h_aft, .inr (3, [.int w5, .int w6, .int w7]))]) (wt' := [(h_x, .inr (4, [.ref h_net, .ref h_now, .ref a_don, .ref a_wri, .ref h_per, .ref a_tho, .ref h_aft])), (h_net, .inr (1, [.ref h_ends, .int nc, .int sc, .int br, .int so, .int lo])), (h_ends, .inl (cI, 24, .inl ends)), (h_now, .inr (3, [.int cl, .int ea, .int on])), (h_per, .inr (2, [.ref h_hol, .int pg])), (h_hol, .inl (cI, 10, .inl hol)), (h_aft, .inr (3, [.int w5, .int w6, .int w7]))]) (wc := [(h_x, .inr (4, [.ref h_net, .ref h_now, .ref a_don, .ref a_wri, .ref h_per, .ref a_tho, .ref h_aft])), (h_net, .inr (1, [.ref h_ends, .int nc, .int sc, .int br, .int so, .int lo])), (h_ends, .inl (cI, 24, .inl ends)), (h_per, .inr (2, [.ref h_hol, .int pg])), (h_hol, .inl (cI, 10, .inl hol)), (h_now, .inr (3, [.int cl, .int ea, .int on])), (h_aft, .inr (3, [.int ac, .int ae, .int ao]))]) (rv := (some (.int v4))) ⟨hx, hb, hml, hown, hts⟩ (kX4_reasonIn l D cI cZ cL H.size h_x h_now a_don a_wri a_tho h_net h_ends h_per h_hol h_now h_aft nc sc br so lo ends pg hol cl ea on ac ae ao p0 p1 N hq3) (cwV 3 hts gX4_reason_X4_reasonIn rfl rfl rfl (by decide +kernel) ⟨Nat.le_of_ble_eq_true rfl, Nat.le_of_ble_eq_true rfl⟩) hP hD hS hA hKK [0, 1, 2, 4, 5, 3, 6] [] [0, 1, 2, 5, 3, 4, 6] rfl rfl (by decide) (by decide) rfl (by decide) (by decide) (va_recv hK hP (ci := 4) (q0 := 0) rfl rfl) rfl hl.1 rfl (Nat.le_of_ble_eq_true rfl) dX4_reason_13 ⟨Nat.le_of_ble_eq_true rfl, Nat.le_of_ble_eq_true rfl⟩ (fun H locs hP hD hS hz9 => ?_)
    show W p l e _ s m _ below meth c H locs _ _ QQ (F0 m 16 ls (.int v4 :: []))
    cases h
    rw [hQQ]
    refine vx_ret ?_
    refine W.widen (k := 1) (n := 6) (Nat.le_of_ble_eq_true rfl) (Nat.le_of_ble_eq_true rfl) ?_
    exact W.iret hx hb hr (fun t ht hW => ⟨_, rfl, rfl, by rw [ht]; exact hP, hD, hS.F ht⟩) hS.2.2 dX4_reason_16

def fX4_takeBack (N : Nat) (nc : Int32) (sc : Int32) (br : Int32) (so : Int32) (lo : Int32) (ends : Nat → Int32) (cl : Int32) (ea : Int32) (on : Int32) (ds : Int32) (dac : Nat → Int32) (pg : Int32) (hol : Nat → Int32) (ac : Int32) (ae : Int32) (ao : Int32) : Option (String ⊕ ((Int32) × (Int32) × (Int32) × (Int32) × (Int32) × (Int32) × (Int32) × (Int32))) :=
  bd1 (fX0_size N ds) (fun v1 => (if v1 = 0 then some (.inl "java/lang/IllegalStateException") else bd1 (fX0_latest N ds 200 dac 0) (fun v4 => bd1 (fX4_oppositeOf N  v4) (fun v6 => bd1 (fX4_kindOf N  v6) (fun v8 => bd1 (fX4_whatOf N  v6) (fun v10 => bd4 (fX4_reasonIn N nc sc br so lo ends pg hol cl ea on ac ae ao v8 v10) (fun v13 w14 w15 w16 => (if v13 = 0 then bd1 (fX4_kindOf N  v6) (fun v18 => bd1 (fX4_whatOf N  v6) (fun v20 => bd3 (fX3_flip N cl ea on v18 v20) (fun w23 w24 w25 => bd1 (fX0_dropLast N ds) (fun w27 => some (.inr (v13, w23, w24, w25, w27, w14, w15, w16)))))) else some (.inr (v13, cl, ea, on, ds, w14, w15, w16))))))))))
set_option maxRecDepth 100000 in
theorem inX4_takeBack_X4 : ∀ w ∈ wsX40, w ∈ wsX4_takeBack := by decide +kernel
set_option maxRecDepth 100000 in
theorem lkX4_takeBack_0 : (.fieldLink RX4 28 "Switchlog" "done" "LSwitchlog$ActRow;" : Cond) ∈ wsX4_takeBack := by decide +kernel
set_option maxRecDepth 100000 in
theorem lkX4_takeBack_1 : (.fieldLink RX4 19 "Switchlog" "now" "LSwitchlog$State;" : Cond) ∈ wsX4_takeBack := by decide +kernel
set_option maxRecDepth 100000 in
theorem lkX4_takeBack_2 : (.classLink RX4 52 "java/lang/IllegalStateException" : Cond) ∈ wsX4_takeBack := by decide +kernel
set_option maxRecDepth 100000 in
theorem lkX4_takeBack_3 : (.initialized "java/lang/IllegalStateException" : Cond) ∈ wsX4_takeBack := by decide +kernel
set_option maxRecDepth 100000 in
theorem atX4_takeBack_56 : ∀ w ∈ (vx_atS RX4 56 "java/lang/IllegalStateException" ["java/lang/RuntimeException", "java/lang/Exception"]).filter goodWord, w ∈ wsX4_takeBack := by decide +kernel
abbrev rmX4_takeBack : Room := { frames := 6, cells := 1, slots := 6, locals := 119 }
set_option maxHeartbeats 4000000 in
set_option maxRecDepth 100000 in
theorem kX4_takeBack (l : Launch) (hl0 : l.stackTraces = false) (D : va_G) (cI cZ cL : ClassId) (sz0 : Nat) (h_x a_wri a_tho h_net h_ends h_now h_don h_dac h_per h_hol h_aft : Nat) (nc : Int32) (sc : Int32) (br : Int32) (so : Int32) (lo : Int32) (ends : Nat → Int32) (cl : Int32) (ea : Int32) (on : Int32) (ds : Int32) (dac : Nat → Int32) (pg : Int32) (hol : Nat → Int32) (ac : Int32) (ae : Int32) (ao : Int32)  (N : Nat) {R : String ⊕ ((Int32) × (Int32) × (Int32) × (Int32) × (Int32) × (Int32) × (Int32) × (Int32))} (h : fX4_takeBack N nc sc br so lo ends cl ea on ds dac pg hol ac ae ao  = some R) : vx_Met l yX4_takeBack wsX4_takeBack rmX4_takeBack (PT D cI cZ cL [.ref h_x] [(h_x, .inr (4, [.ref h_net, .ref h_now, .ref h_don, .ref a_wri, .ref h_per, .ref a_tho, .ref h_aft])), (h_net, .inr (1, [.ref h_ends, .int nc, .int sc, .int br, .int so, .int lo])), (h_ends, .inl (cI, 24, .inl ends)), (h_now, .inr (3, [.int cl, .int ea, .int on])), (h_don, .inr (0, [.ref h_dac, .int ds])), (h_dac, .inl (cI, 200, .inl dac)), (h_per, .inr (2, [.ref h_hol, .int pg])), (h_hol, .inl (cI, 10, .inl hol)), (h_aft, .inr (3, [.int ac, .int ae, .int ao]))] sz0) (QT D (fun u => some (.int u.1)) (va_A [(h_x, .inr (4, [.ref h_net, .ref h_now, .ref h_don, .ref a_wri, .ref h_per, .ref a_tho, .ref h_aft])), (h_net, .inr (1, [.ref h_ends, .int nc, .int sc, .int br, .int so, .int lo])), (h_ends, .inl (cI, 24, .inl ends)), (h_now, .inr (3, [.int cl, .int ea, .int on])), (h_don, .inr (0, [.ref h_dac, .int ds])), (h_dac, .inl (cI, 200, .inl dac)), (h_per, .inr (2, [.ref h_hol, .int pg])), (h_hol, .inl (cI, 10, .inl hol)), (h_aft, .inr (3, [.int ac, .int ae, .int ao]))] sz0) (fun u : (Int32) × (Int32) × (Int32) × (Int32) × (Int32) × (Int32) × (Int32) × (Int32) => [(h_x, .inr (4, [.ref h_net, .ref h_now, .ref h_don, .ref a_wri, .ref h_per, .ref a_tho, .ref h_aft])), (h_net, .inr (1, [.ref h_ends, .int nc, .int sc, .int br, .int so, .int lo])), (h_ends, .inl (cI, 24, .inl ends)), (h_now, .inr (3, [.int u.2.1, .int u.2.2.1, .int u.2.2.2.1])), (h_don, .inr (0, [.ref h_dac, .int u.2.2.2.2.1])), (h_dac, .inl (cI, 200, .inl dac)), (h_per, .inr (2, [.ref h_hol, .int pg])), (h_hol, .inl (cI, 10, .inl hol)), (h_aft, .inr (3, [.int u.2.2.2.2.2.1, .int u.2.2.2.2.2.2.1, .int u.2.2.2.2.2.2.2]))]) R) (XT D (va_A [(h_x, .inr (4, [.ref h_net, .ref h_now, .ref h_don, .ref a_wri, .ref h_per, .ref a_tho, .ref h_aft])), (h_net, .inr (1, [.ref h_ends, .int nc, .int sc, .int br, .int so, .int lo])), (h_ends, .inl (cI, 24, .inl ends)), (h_now, .inr (3, [.int cl, .int ea, .int on])), (h_don, .inr (0, [.ref h_dac, .int ds])), (h_dac, .inl (cI, 200, .inl dac)), (h_per, .inr (2, [.ref h_hol, .int pg])), (h_hol, .inl (cI, 10, .inl hol)), (h_aft, .inr (3, [.int ac, .int ae, .int ao]))] sz0) [(h_x, .inr (4, [.ref h_net, .ref h_now, .ref h_don, .ref a_wri, .ref h_per, .ref a_tho, .ref h_aft])), (h_net, .inr (1, [.ref h_ends, .int nc, .int sc, .int br, .int so, .int lo])), (h_ends, .inl (cI, 24, .inl ends)), (h_now, .inr (3, [.int cl, .int ea, .int on])), (h_don, .inr (0, [.ref h_dac, .int ds])), (h_dac, .inl (cI, 200, .inl dac)), (h_per, .inr (2, [.ref h_hol, .int pg])), (h_hol, .inl (cI, 10, .inl hol)), (h_aft, .inr (3, [.int ac, .int ae, .int ao]))] R) 1 6 (va_A [(h_x, .inr (4, [.ref h_net, .ref h_now, .ref h_don, .ref a_wri, .ref h_per, .ref a_tho, .ref h_aft])), (h_net, .inr (1, [.ref h_ends, .int nc, .int sc, .int br, .int so, .int lo])), (h_ends, .inl (cI, 24, .inl ends)), (h_now, .inr (3, [.int cl, .int ea, .int on])), (h_don, .inr (0, [.ref h_dac, .int ds])), (h_dac, .inl (cI, 200, .inl dac)), (h_per, .inr (2, [.ref h_hol, .int pg])), (h_hol, .inl (cI, 10, .inl hol)), (h_aft, .inr (3, [.int ac, .int ae, .int ao]))] sz0) := by
  refine vx_ofW (cc := cX4_takeBack) (maxL := 3) (ret := (some .int)) (by decide) rfl ?_
  intro p e s m args below meth c s₁ B hml hno hv
  obtain ⟨rfl, hsz, hP, hKK, hD0, hKS, hKZ⟩ := hv
  have hK := hKK.1
  have hx := B.exec
  have hb := B.bytes
  have hr := B.returns
  have hts := atoms_spec (ws := wsX4_takeBack) B.pre
  have hown : s.vm.findClass RX4 = some m.cls := findClass_of_methodNamed B.named
  have hlocks := B.notSynchronized
  subst hsz
  have hD := hD0.self (sz := s.heap.size)
  generalize hAe : va_A [(h_x, .inr (4, [.ref h_net, .ref h_now, .ref h_don, .ref a_wri, .ref h_per, .ref a_tho, .ref h_aft])), (h_net, .inr (1, [.ref h_ends, .int nc, .int sc, .int br, .int so, .int lo])), (h_ends, .inl (cI, 24, .inl ends)), (h_now, .inr (3, [.int cl, .int ea, .int on])), (h_don, .inr (0, [.ref h_dac, .int ds])), (h_dac, .inl (cI, 200, .inl dac)), (h_per, .inr (2, [.ref h_hol, .int pg])), (h_hol, .inl (cI, 10, .inl hol)), (h_aft, .inr (3, [.int ac, .int ae, .int ao]))] s.heap.size = A at hD hKZ ⊢
  have hA : ∀ q : Nat, s.heap.size ≤ q → A q := fun q h => by rw [← hAe]; exact Or.inr h
  have hS : va_S A s.heap s.heap [] := va_S.rf
  have hl := lv_entry ([.ref h_x]) (n := 3) (Nat.le_of_ble_eq_true rfl)
  rw [lg_entry_eq]
  generalize (lg_sl ([.ref h_x]) ++ List.replicate (3 - (lg_sl ([.ref h_x])).length) Slot.unset).toArray = ls at hl ⊢
  have hl : lv_has ls 3 [(0, .ref h_x)] := hl
  obtain ⟨QQ, hQQ⟩ : ∃ Z, Z = vx_MQ below (QT D (fun u => some (.int u.1)) A (fun u : (Int32) × (Int32) × (Int32) × (Int32) × (Int32) × (Int32) × (Int32) × (Int32) => [(h_x, .inr (4, [.ref h_net, .ref h_now, .ref h_don, .ref a_wri, .ref h_per, .ref a_tho, .ref h_aft])), (h_net, .inr (1, [.ref h_ends, .int nc, .int sc, .int br, .int so, .int lo])), (h_ends, .inl (cI, 24, .inl ends)), (h_now, .inr (3, [.int u.2.1, .int u.2.2.1, .int u.2.2.2.1])), (h_don, .inr (0, [.ref h_dac, .int u.2.2.2.2.1])), (h_dac, .inl (cI, 200, .inl dac)), (h_per, .inr (2, [.ref h_hol, .int pg])), (h_hol, .inl (cI, 10, .inl hol)), (h_aft, .inr (3, [.int u.2.2.2.2.2.1, .int u.2.2.2.2.2.2.1, .int u.2.2.2.2.2.2.2]))]) R) (XT D A [(h_x, .inr (4, [.ref h_net, .ref h_now, .ref h_don, .ref a_wri, .ref h_per, .ref a_tho, .ref h_aft])), (h_net, .inr (1, [.ref h_ends, .int nc, .int sc, .int br, .int so, .int lo])), (h_ends, .inl (cI, 24, .inl ends)), (h_now, .inr (3, [.int cl, .int ea, .int on])), (h_don, .inr (0, [.ref h_dac, .int ds])), (h_dac, .inl (cI, 200, .inl dac)), (h_per, .inr (2, [.ref h_hol, .int pg])), (h_hol, .inl (cI, 10, .inl hol)), (h_aft, .inr (3, [.int ac, .int ae, .int ao]))] R) ([.ref h_x] : List Value).toArray s 1 6 A := ⟨_, rfl⟩
  rw [← hQQ]
  obtain ⟨H, locs, hHe, hLe⟩ : ∃ (H : Heap) (locs : List Loc), H = s.heap ∧ locs = [] := ⟨_, _, rfl, rfl⟩
  have hP : va_P D vwCl [(h_x, .inr (4, [.ref h_net, .ref h_now, .ref h_don, .ref a_wri, .ref h_per, .ref a_tho, .ref h_aft])), (h_net, .inr (1, [.ref h_ends, .int nc, .int sc, .int br, .int so, .int lo])), (h_ends, .inl (cI, 24, .inl ends)), (h_now, .inr (3, [.int cl, .int ea, .int on])), (h_don, .inr (0, [.ref h_dac, .int ds])), (h_dac, .inl (cI, 200, .inl dac)), (h_per, .inr (2, [.ref h_hol, .int pg])), (h_hol, .inl (cI, 10, .inl hol)), (h_aft, .inr (3, [.int ac, .int ae, .int ao]))] H := by rw [hHe]; exact hP
  have hS : va_S A s.heap H locs := by rw [hHe, hLe]; exact hS
  have hW0 : ∀ QQ : State → Prop, W p l e (headSpec wsX4_takeBack rmX4_takeBack).room s m (([.ref h_x] : List Value).toArray) below meth c H locs 0 0 QQ (F0 m 0 ls []) → W p l e (headSpec wsX4_takeBack rmX4_takeBack).room s m (([.ref h_x] : List Value).toArray) below meth c s.heap [] 0 0 QQ (F0 m 0 ls []) := by rw [hHe, hLe]; exact fun _ h => h
  refine hW0 _ ?_
  clear hW0
  unfold fX4_takeBack at h
  refine lv_aload_n hx hb dX4_takeBack_0 rfl (lv_at hl 0 rfl) ?_
  refine va_get (D := D) (ci := 4) (v := .ref h_don) (C := RX4) (T := TX4) (N := 7) hx hb hts inX4_takeBack_X4 hown hK hP 0 rfl rfl 2 (by decide) (hts _ lkX4_takeBack_0) (fun _ h9 => h9) rfl dX4_takeBack_1 ?_
  obtain ⟨v1, hq2, h⟩ := bd1_e h
  refine zz_cV (As := []) ⟨hx, hb, hml, hown, hts⟩ (kX0_size l D cI cZ cL h_don h_dac ds N hq2) (cwV 0 hts gX4_takeBack_X0_size rfl rfl rfl (by decide +kernel) ⟨Nat.le_of_ble_eq_true rfl, Nat.le_of_ble_eq_true rfl⟩) (hP.sub (ws' := [(h_don, .inr (0, [.ref h_dac, .int ds]))]) [4] rfl) hKK (va_recv hK hP (ci := 0) (q0 := 4) rfl rfl) rfl hl.1 rfl (Nat.le_of_ble_eq_true rfl) dX4_takeBack_4 ⟨Nat.le_of_ble_eq_true rfl, Nat.le_of_ble_eq_true rfl⟩ ?_
  refine lv_if_ne (tgt := 20) hx hb dX4_takeBack_7 (by decide) (fun c3 => ?_) (fun c3 => ?_)
  · have h := it_f h c3
    refine lv_aload_n hx hb dX4_takeBack_20 rfl (lv_at hl 0 rfl) ?_
    refine va_get (D := D) (ci := 4) (v := .ref h_don) (C := RX4) (T := TX4) (N := 7) hx hb hts inX4_takeBack_X4 hown hK hP 0 rfl rfl 2 (by decide) (hts _ lkX4_takeBack_0) (fun _ h9 => h9) rfl dX4_takeBack_21 ?_
    refine lv_iconst (v := 0) hx hb dX4_takeBack_24 (by decide) ?_
    obtain ⟨v4, hq5, h⟩ := bd1_e h
    refine zz_cV (As := [.int 0]) ⟨hx, hb, hml, hown, hts⟩ (kX0_latest l D cI cZ cL h_don h_dac ds 200 dac 0 N hq5) (cwV 1 hts gX4_takeBack_X0_latest rfl rfl rfl (by decide +kernel) ⟨Nat.le_of_ble_eq_true rfl, Nat.le_of_ble_eq_true rfl⟩) (hP.sub (ws' := [(h_don, .inr (0, [.ref h_dac, .int ds])), (h_dac, .inl (cI, 200, .inl dac))]) [4, 5] rfl) hKK (va_recv hK hP (ci := 0) (q0 := 4) rfl rfl) rfl hl.1 rfl (Nat.le_of_ble_eq_true rfl) dX4_takeBack_25 ⟨Nat.le_of_ble_eq_true rfl, Nat.le_of_ble_eq_true rfl⟩ ?_
    obtain ⟨v6, hq7, h⟩ := bd1_e h
    refine zz_cS (As := [.int v4]) ⟨hx, hb, hml, hown, hts⟩ (kX4_oppositeOf l D cI cZ cL v4 N hq7) (va_cwS 1 hts gX4_takeBack_X4_oppositeOf rfl rfl rfl (by decide +kernel) ⟨Nat.le_of_ble_eq_true rfl, Nat.le_of_ble_eq_true rfl⟩) (hP.sub (ws' := []) [] rfl) hKK rfl hl.1 rfl (Nat.le_of_ble_eq_true rfl) dX4_takeBack_28 ⟨Nat.le_of_ble_eq_true rfl, Nat.le_of_ble_eq_true rfl⟩ ?_
    refine lv_istore_n (lv' := [(1, .int v6), (0, .ref h_x)]) hx hb dX4_takeBack_31 rfl hl (by decide) rfl (fun ls hl => ?_)
    refine lv_aload_n hx hb dX4_takeBack_32 rfl (lv_at hl 1 rfl) ?_
    refine lv_aload_n hx hb dX4_takeBack_33 rfl (lv_at hl 1 rfl) ?_
    refine va_get (D := D) (ci := 4) (v := .ref h_now) (C := RX4) (T := TX4) (N := 7) hx hb hts inX4_takeBack_X4 hown hK hP 0 rfl rfl 1 (by decide) (hts _ lkX4_takeBack_1) (fun _ h9 => h9) rfl dX4_takeBack_34 ?_
    refine lv_iload_n hx hb dX4_takeBack_37 rfl (lv_at hl 0 rfl) ?_
    obtain ⟨v8, hq9, h⟩ := bd1_e h
    refine zz_cS (As := [.int v6]) ⟨hx, hb, hml, hown, hts⟩ (kX4_kindOf l D cI cZ cL v6 N hq9) (va_cwS 1 hts gX4_takeBack_X4_kindOf rfl rfl rfl (by decide +kernel) ⟨Nat.le_of_ble_eq_true rfl, Nat.le_of_ble_eq_true rfl⟩) (hP.sub (ws' := []) [] rfl) hKK rfl hl.1 rfl (Nat.le_of_ble_eq_true rfl) dX4_takeBack_38 ⟨Nat.le_of_ble_eq_true rfl, Nat.le_of_ble_eq_true rfl⟩ ?_
    refine lv_iload_n hx hb dX4_takeBack_41 rfl (lv_at hl 0 rfl) ?_
    obtain ⟨v10, hq11, h⟩ := bd1_e h
    refine zz_cS (As := [.int v6]) ⟨hx, hb, hml, hown, hts⟩ (kX4_whatOf l D cI cZ cL v6 N hq11) (va_cwS 1 hts gX4_takeBack_X4_whatOf rfl rfl rfl (by decide +kernel) ⟨Nat.le_of_ble_eq_true rfl, Nat.le_of_ble_eq_true rfl⟩) (hP.sub (ws' := []) [] rfl) hKK rfl hl.1 rfl (Nat.le_of_ble_eq_true rfl) dX4_takeBack_42 ⟨Nat.le_of_ble_eq_true rfl, Nat.le_of_ble_eq_true rfl⟩ ?_
    obtain ⟨v13, w14, w15, w16, hq12, h⟩ := bd4_e h
    refine zz_mV (As := [.ref h_now, .int v8, .int v10]) (wr := [(h_don, .inr (0, [.ref h_dac, .int ds])), (h_dac, .inl (cI, 200, .inl dac))]) (w1 := [(h_x, .inr (4, [.ref h_net, .ref h_now, .ref h_don, .ref a_wri, .ref h_per, .ref a_tho, .ref h_aft])), (h_net, .inr (1, [.ref h_ends, .int nc, .int sc, .int br, .int so, .int lo])), (h_ends, .inl (cI, 24, .inl ends)), (h_per, .inr (2, [.ref h_hol, .int pg])), (h_hol, .inl (cI, 10, .inl hol)), (h_now, .inr (3, [.int cl, .int ea, .int on])), (h_aft, .inr (3, [.int w14, .int w15, .int w16]))]) (wt' := [(h_x, .inr (4, [.ref h_net, .ref h_now, .ref h_don, .ref a_wri, .ref h_per, .ref a_tho, .ref h_aft])), (h_net, .inr (1, [.ref h_ends, .int nc, .int sc, .int br, .int so, .int lo])), (h_ends, .inl (cI, 24, .inl ends)), (h_now, .inr (3, [.int cl, .int ea, .int on])), (h_don, .inr (0, [.ref h_dac, .int ds])), (h_dac, .inl (cI, 200, .inl dac)), (h_per, .inr (2, [.ref h_hol, .int pg])), (h_hol, .inl (cI, 10, .inl hol)), (h_aft, .inr (3, [.int w14, .int w15, .int w16]))]) (wc := [(h_x, .inr (4, [.ref h_net, .ref h_now, .ref h_don, .ref a_wri, .ref h_per, .ref a_tho, .ref h_aft])), (h_net, .inr (1, [.ref h_ends, .int nc, .int sc, .int br, .int so, .int lo])), (h_ends, .inl (cI, 24, .inl ends)), (h_per, .inr (2, [.ref h_hol, .int pg])), (h_hol, .inl (cI, 10, .inl hol)), (h_now, .inr (3, [.int cl, .int ea, .int on])), (h_aft, .inr (3, [.int ac, .int ae, .int ao]))]) (rv := (some (.int v13))) ⟨hx, hb, hml, hown, hts⟩ (kX4_reasonIn l D cI cZ cL H.size h_x h_now h_don a_wri a_tho h_net h_ends h_per h_hol h_now h_aft nc sc br so lo ends pg hol cl ea on ac ae ao v8 v10 N hq12) (cwV 3 hts gX4_takeBack_X4_reasonIn rfl rfl rfl (by decide +kernel) ⟨Nat.le_of_ble_eq_true rfl, Nat.le_of_ble_eq_true rfl⟩) hP hD hS hA hKK [0, 1, 2, 6, 7, 3, 8] [4, 5] [2, 3, 4, 7, 0, 1, 5, 6, 8] rfl rfl (by decide) (by decide) rfl (by decide) (by decide) (va_recv hK hP (ci := 4) (q0 := 0) rfl rfl) rfl hl.1 rfl (Nat.le_of_ble_eq_true rfl) dX4_takeBack_45 ⟨Nat.le_of_ble_eq_true rfl, Nat.le_of_ble_eq_true rfl⟩ (fun H locs hP hD hS hz9 => ?_)
    show W p l e _ s m _ below meth c H locs _ _ QQ (F0 m 48 ls (.int v13 :: []))
    refine lv_istore_n (lv' := [(2, .int v13), (1, .int v6), (0, .ref h_x)]) hx hb dX4_takeBack_48 rfl hl (by decide) rfl (fun ls hl => ?_)
    refine lv_iload_n hx hb dX4_takeBack_49 rfl (lv_at hl 0 rfl) ?_
    refine lv_if_ne (tgt := 75) hx hb dX4_takeBack_50 (by decide) (fun c17 => ?_) (fun c17 => ?_)
    · have h := it_f h c17
      refine lv_iload_n hx hb dX4_takeBack_75 rfl (lv_at hl 0 rfl) ?_
      cases h
      rw [hQQ]
      refine vx_ret ?_
      refine W.widen (k := 1) (n := 6) (Nat.le_of_ble_eq_true rfl) (Nat.le_of_ble_eq_true rfl) ?_
      exact W.iret hx hb hr (fun t ht hW => ⟨_, rfl, rfl, by rw [ht]; exact hP, hD, hS.F ht⟩) hS.2.2 dX4_takeBack_76
    · have h := it_t h c17
      refine lv_aload_n hx hb dX4_takeBack_53 rfl (lv_at hl 2 rfl) ?_
      refine va_get (D := D) (ci := 4) (v := .ref h_now) (C := RX4) (T := TX4) (N := 7) hx hb hts inX4_takeBack_X4 hown hK hP 0 rfl rfl 1 (by decide) (hts _ lkX4_takeBack_1) (fun _ h9 => h9) rfl dX4_takeBack_54 ?_
      refine lv_iload_n hx hb dX4_takeBack_57 rfl (lv_at hl 1 rfl) ?_
      obtain ⟨v18, hq19, h⟩ := bd1_e h
      refine zz_cS (As := [.int v6]) ⟨hx, hb, hml, hown, hts⟩ (kX4_kindOf l D cI cZ cL v6 N hq19) (va_cwS 1 hts gX4_takeBack_X4_kindOf rfl rfl rfl (by decide +kernel) ⟨Nat.le_of_ble_eq_true rfl, Nat.le_of_ble_eq_true rfl⟩) (hP.sub (ws' := []) [] rfl) hKK rfl hl.1 rfl (Nat.le_of_ble_eq_true rfl) dX4_takeBack_58 ⟨Nat.le_of_ble_eq_true rfl, Nat.le_of_ble_eq_true rfl⟩ ?_
      refine lv_iload_n hx hb dX4_takeBack_61 rfl (lv_at hl 1 rfl) ?_
      obtain ⟨v20, hq21, h⟩ := bd1_e h
      refine zz_cS (As := [.int v6]) ⟨hx, hb, hml, hown, hts⟩ (kX4_whatOf l D cI cZ cL v6 N hq21) (va_cwS 1 hts gX4_takeBack_X4_whatOf rfl rfl rfl (by decide +kernel) ⟨Nat.le_of_ble_eq_true rfl, Nat.le_of_ble_eq_true rfl⟩) (hP.sub (ws' := []) [] rfl) hKK rfl hl.1 rfl (Nat.le_of_ble_eq_true rfl) dX4_takeBack_62 ⟨Nat.le_of_ble_eq_true rfl, Nat.le_of_ble_eq_true rfl⟩ ?_
      obtain ⟨w23, w24, w25, hq22, h⟩ := bd3_e h
      refine zz_mV (As := [.int v18, .int v20]) (wr := [(h_x, .inr (4, [.ref h_net, .ref h_now, .ref h_don, .ref a_wri, .ref h_per, .ref a_tho, .ref h_aft])), (h_net, .inr (1, [.ref h_ends, .int nc, .int sc, .int br, .int so, .int lo])), (h_ends, .inl (cI, 24, .inl ends)), (h_don, .inr (0, [.ref h_dac, .int ds])), (h_dac, .inl (cI, 200, .inl dac)), (h_per, .inr (2, [.ref h_hol, .int pg])), (h_hol, .inl (cI, 10, .inl hol)), (h_aft, .inr (3, [.int w14, .int w15, .int w16]))]) (w1 := [(h_now, .inr (3, [.int w23, .int w24, .int w25]))]) (wt' := [(h_x, .inr (4, [.ref h_net, .ref h_now, .ref h_don, .ref a_wri, .ref h_per, .ref a_tho, .ref h_aft])), (h_net, .inr (1, [.ref h_ends, .int nc, .int sc, .int br, .int so, .int lo])), (h_ends, .inl (cI, 24, .inl ends)), (h_now, .inr (3, [.int w23, .int w24, .int w25])), (h_don, .inr (0, [.ref h_dac, .int ds])), (h_dac, .inl (cI, 200, .inl dac)), (h_per, .inr (2, [.ref h_hol, .int pg])), (h_hol, .inl (cI, 10, .inl hol)), (h_aft, .inr (3, [.int w14, .int w15, .int w16]))]) (wc := [(h_now, .inr (3, [.int cl, .int ea, .int on]))]) (rv := none) ⟨hx, hb, hml, hown, hts⟩ (kX3_flip l D cI cZ cL H.size h_now cl ea on v18 v20 N hq22) (cwV 2 hts gX4_takeBack_X3_flip rfl rfl rfl (by decide +kernel) ⟨Nat.le_of_ble_eq_true rfl, Nat.le_of_ble_eq_true rfl⟩) hP hD hS hA hKK [3] [0, 1, 2, 4, 5, 6, 7, 8] [0, 1, 2, 8, 3, 4, 5, 6, 7] rfl rfl (by decide) (by decide) rfl (by decide) (by decide) (va_recv hK hP (ci := 3) (q0 := 3) rfl rfl) rfl hl.1 rfl (Nat.le_of_ble_eq_true rfl) dX4_takeBack_65 ⟨Nat.le_of_ble_eq_true rfl, Nat.le_of_ble_eq_true rfl⟩ (fun H locs hP hD hS hz9 => ?_)
      show W p l e _ s m _ below meth c H locs _ _ QQ (F0 m 68 ls [])
      refine lv_aload_n hx hb dX4_takeBack_68 rfl (lv_at hl 2 rfl) ?_
      refine va_get (D := D) (ci := 4) (v := .ref h_don) (C := RX4) (T := TX4) (N := 7) hx hb hts inX4_takeBack_X4 hown hK hP 0 rfl rfl 2 (by decide) (hts _ lkX4_takeBack_0) (fun _ h9 => h9) rfl dX4_takeBack_69 ?_
      obtain ⟨w27, hq26, h⟩ := bd1_e h
      refine zz_mV (As := []) (wr := [(h_x, .inr (4, [.ref h_net, .ref h_now, .ref h_don, .ref a_wri, .ref h_per, .ref a_tho, .ref h_aft])), (h_net, .inr (1, [.ref h_ends, .int nc, .int sc, .int br, .int so, .int lo])), (h_ends, .inl (cI, 24, .inl ends)), (h_now, .inr (3, [.int w23, .int w24, .int w25])), (h_dac, .inl (cI, 200, .inl dac)), (h_per, .inr (2, [.ref h_hol, .int pg])), (h_hol, .inl (cI, 10, .inl hol)), (h_aft, .inr (3, [.int w14, .int w15, .int w16]))]) (w1 := [(h_don, .inr (0, [.ref h_dac, .int w27]))]) (wt' := [(h_x, .inr (4, [.ref h_net, .ref h_now, .ref h_don, .ref a_wri, .ref h_per, .ref a_tho, .ref h_aft])), (h_net, .inr (1, [.ref h_ends, .int nc, .int sc, .int br, .int so, .int lo])), (h_ends, .inl (cI, 24, .inl ends)), (h_now, .inr (3, [.int w23, .int w24, .int w25])), (h_don, .inr (0, [.ref h_dac, .int w27])), (h_dac, .inl (cI, 200, .inl dac)), (h_per, .inr (2, [.ref h_hol, .int pg])), (h_hol, .inl (cI, 10, .inl hol)), (h_aft, .inr (3, [.int w14, .int w15, .int w16]))]) (wc := [(h_don, .inr (0, [.ref h_dac, .int ds]))]) (rv := none) ⟨hx, hb, hml, hown, hts⟩ (kX0_dropLast l D cI cZ cL H.size h_don h_dac ds N hq26) (cwV 0 hts gX4_takeBack_X0_dropLast rfl rfl rfl (by decide +kernel) ⟨Nat.le_of_ble_eq_true rfl, Nat.le_of_ble_eq_true rfl⟩) hP hD hS hA hKK [4] [0, 1, 2, 3, 5, 6, 7, 8] [0, 1, 2, 3, 8, 4, 5, 6, 7] rfl rfl (by decide) (by decide) rfl (by decide) (by decide) (va_recv hK hP (ci := 0) (q0 := 4) rfl rfl) rfl hl.1 rfl (Nat.le_of_ble_eq_true rfl) dX4_takeBack_72 ⟨Nat.le_of_ble_eq_true rfl, Nat.le_of_ble_eq_true rfl⟩ (fun H locs hP hD hS hz9 => ?_)
      show W p l e _ s m _ below meth c H locs _ _ QQ (F0 m 75 ls [])
      refine lv_iload_n hx hb dX4_takeBack_75 rfl (lv_at hl 0 rfl) ?_
      cases h
      rw [hQQ]
      refine vx_ret ?_
      refine W.widen (k := 1) (n := 6) (Nat.le_of_ble_eq_true rfl) (Nat.le_of_ble_eq_true rfl) ?_
      exact W.iret hx hb hr (fun t ht hW => ⟨_, rfl, rfl, by rw [ht]; exact hP, hD, hS.F ht⟩) hS.2.2 dX4_takeBack_76
  · have h := it_t h c3
    cases h
    obtain ⟨sa9, hsa9⟩ := hKS.1 (101, "the log is empty") (List.mem_of_getElem? (i := 4) rfl)
    rw [hQQ]
    exact vx_throwS hx hb hl0 (A := A) (own := RX4) (cls := "java/lang/IllegalStateException") (text := "the log is empty") (names := ["java/lang/RuntimeException", "java/lang/Exception"]) (ik := 52) (is := 101) (ic := 56) hown (by decide +kernel) (by decide +kernel) (hts _ lkX4_takeBack_2) (hts _ lkX4_takeBack_3) hsa9 (hKS.hat (fun w h => hts w (atX4_takeBack_56 w h)) nb_RX4_56) (go_RX4_56 52) hKZ.1 hKZ.2 hS (hl.1.trans hml.symm) dX4_takeBack_10 dX4_takeBack_13 dX4_takeBack_14 dX4_takeBack_16 dX4_takeBack_19 (fun x hx => (hno x hx).elim) (Nat.le_of_ble_eq_true rfl) (Nat.le_of_ble_eq_true rfl) (Nat.le_of_ble_eq_true rfl) (Nat.le_of_ble_eq_true rfl) hlocks (fun t ht hz hq => zz_XT hP hD hS hz hq) hS.2.2 (Nat.le_of_ble_eq_true rfl) (Nat.le_of_ble_eq_true rfl)

def fX4_logged (N : Nat) (ds : Int32) (dac : Nat → Int32) (p0 : Int32) : Option (String ⊕ ((Int32))) :=
  (if p0 < 0 then some (.inl "java/lang/IndexOutOfBoundsException") else bd1 (fX0_size N ds) (fun v2 => (if p0 < v2 then bd1 (fX0_latest N ds 200 dac p0) (fun v5 => some (.inr v5)) else some (.inl "java/lang/IndexOutOfBoundsException"))))
set_option maxRecDepth 100000 in
theorem inX4_logged_X4 : ∀ w ∈ wsX40, w ∈ wsX4_logged := by decide +kernel
set_option maxRecDepth 100000 in
theorem lkX4_logged_0 : (.classLink RX4 121 "java/lang/IndexOutOfBoundsException" : Cond) ∈ wsX4_logged := by decide +kernel
set_option maxRecDepth 100000 in
theorem lkX4_logged_1 : (.initialized "java/lang/IndexOutOfBoundsException" : Cond) ∈ wsX4_logged := by decide +kernel
set_option maxRecDepth 100000 in
theorem lkX4_logged_2 : (.fieldLink RX4 28 "Switchlog" "done" "LSwitchlog$ActRow;" : Cond) ∈ wsX4_logged := by decide +kernel
set_option maxRecDepth 100000 in
theorem atX4_logged_125 : ∀ w ∈ (vx_atS RX4 125 "java/lang/IndexOutOfBoundsException" ["java/lang/RuntimeException", "java/lang/Exception"]).filter goodWord, w ∈ wsX4_logged := by decide +kernel
abbrev rmX4_logged : Room := { frames := 6, cells := 1, slots := 6, locals := 82 }
set_option maxHeartbeats 4000000 in
set_option maxRecDepth 100000 in
theorem kX4_logged (l : Launch) (hl0 : l.stackTraces = false) (D : va_G) (cI cZ cL : ClassId) (sz0 : Nat) (h_x a_net a_now a_wri a_per a_tho a_aft h_don h_dac : Nat) (ds : Int32) (dac : Nat → Int32) (p0 : Int32) (N : Nat) {R : String ⊕ ((Int32))} (h : fX4_logged N ds dac p0 = some R) : vx_Met l yX4_logged wsX4_logged rmX4_logged (PT D cI cZ cL [.ref h_x, .int p0] [(h_x, .inr (4, [.ref a_net, .ref a_now, .ref h_don, .ref a_wri, .ref a_per, .ref a_tho, .ref a_aft])), (h_don, .inr (0, [.ref h_dac, .int ds])), (h_dac, .inl (cI, 200, .inl dac))] sz0) (QT D (fun u => some (.int u)) (va_A [(h_x, .inr (4, [.ref a_net, .ref a_now, .ref h_don, .ref a_wri, .ref a_per, .ref a_tho, .ref a_aft])), (h_don, .inr (0, [.ref h_dac, .int ds])), (h_dac, .inl (cI, 200, .inl dac))] sz0) (fun u : (Int32) => [(h_x, .inr (4, [.ref a_net, .ref a_now, .ref h_don, .ref a_wri, .ref a_per, .ref a_tho, .ref a_aft])), (h_don, .inr (0, [.ref h_dac, .int ds])), (h_dac, .inl (cI, 200, .inl dac))]) R) (XT D (va_A [(h_x, .inr (4, [.ref a_net, .ref a_now, .ref h_don, .ref a_wri, .ref a_per, .ref a_tho, .ref a_aft])), (h_don, .inr (0, [.ref h_dac, .int ds])), (h_dac, .inl (cI, 200, .inl dac))] sz0) [(h_x, .inr (4, [.ref a_net, .ref a_now, .ref h_don, .ref a_wri, .ref a_per, .ref a_tho, .ref a_aft])), (h_don, .inr (0, [.ref h_dac, .int ds])), (h_dac, .inl (cI, 200, .inl dac))] R) 1 6 (va_A [(h_x, .inr (4, [.ref a_net, .ref a_now, .ref h_don, .ref a_wri, .ref a_per, .ref a_tho, .ref a_aft])), (h_don, .inr (0, [.ref h_dac, .int ds])), (h_dac, .inl (cI, 200, .inl dac))] sz0) := by
  refine vx_ofW (cc := cX4_logged) (maxL := 2) (ret := (some .int)) (by decide) rfl ?_
  intro p e s m args below meth c s₁ B hml hno hv
  obtain ⟨rfl, hsz, hP, hKK, hD0, hKS, hKZ⟩ := hv
  have hK := hKK.1
  have hx := B.exec
  have hb := B.bytes
  have hr := B.returns
  have hts := atoms_spec (ws := wsX4_logged) B.pre
  have hown : s.vm.findClass RX4 = some m.cls := findClass_of_methodNamed B.named
  have hlocks := B.notSynchronized
  subst hsz
  have hD := hD0.self (sz := s.heap.size)
  generalize hAe : va_A [(h_x, .inr (4, [.ref a_net, .ref a_now, .ref h_don, .ref a_wri, .ref a_per, .ref a_tho, .ref a_aft])), (h_don, .inr (0, [.ref h_dac, .int ds])), (h_dac, .inl (cI, 200, .inl dac))] s.heap.size = A at hD hKZ ⊢
  have hA : ∀ q : Nat, s.heap.size ≤ q → A q := fun q h => by rw [← hAe]; exact Or.inr h
  have hS : va_S A s.heap s.heap [] := va_S.rf
  have hl := lv_entry ([.ref h_x, .int p0]) (n := 2) (Nat.le_of_ble_eq_true rfl)
  rw [lg_entry_eq]
  generalize (lg_sl ([.ref h_x, .int p0]) ++ List.replicate (2 - (lg_sl ([.ref h_x, .int p0])).length) Slot.unset).toArray = ls at hl ⊢
  have hl : lv_has ls 2 [(0, .ref h_x), (1, .int p0)] := hl
  obtain ⟨QQ, hQQ⟩ : ∃ Z, Z = vx_MQ below (QT D (fun u => some (.int u)) A (fun u : (Int32) => [(h_x, .inr (4, [.ref a_net, .ref a_now, .ref h_don, .ref a_wri, .ref a_per, .ref a_tho, .ref a_aft])), (h_don, .inr (0, [.ref h_dac, .int ds])), (h_dac, .inl (cI, 200, .inl dac))]) R) (XT D A [(h_x, .inr (4, [.ref a_net, .ref a_now, .ref h_don, .ref a_wri, .ref a_per, .ref a_tho, .ref a_aft])), (h_don, .inr (0, [.ref h_dac, .int ds])), (h_dac, .inl (cI, 200, .inl dac))] R) ([.ref h_x, .int p0] : List Value).toArray s 1 6 A := ⟨_, rfl⟩
  rw [← hQQ]
  obtain ⟨H, locs, hHe, hLe⟩ : ∃ (H : Heap) (locs : List Loc), H = s.heap ∧ locs = [] := ⟨_, _, rfl, rfl⟩
  have hP : va_P D vwCl [(h_x, .inr (4, [.ref a_net, .ref a_now, .ref h_don, .ref a_wri, .ref a_per, .ref a_tho, .ref a_aft])), (h_don, .inr (0, [.ref h_dac, .int ds])), (h_dac, .inl (cI, 200, .inl dac))] H := by rw [hHe]; exact hP
  have hS : va_S A s.heap H locs := by rw [hHe, hLe]; exact hS
  have hW0 : ∀ QQ : State → Prop, W p l e (headSpec wsX4_logged rmX4_logged).room s m (([.ref h_x, .int p0] : List Value).toArray) below meth c H locs 0 0 QQ (F0 m 0 ls []) → W p l e (headSpec wsX4_logged rmX4_logged).room s m (([.ref h_x, .int p0] : List Value).toArray) below meth c s.heap [] 0 0 QQ (F0 m 0 ls []) := by rw [hHe, hLe]; exact fun _ h => h
  refine hW0 _ ?_
  clear hW0
  unfold fX4_logged at h
  refine lv_iload_n hx hb dX4_logged_0 rfl (lv_at hl 1 rfl) ?_
  refine lv_if_lt (tgt := 15) hx hb dX4_logged_1 (by decide) (fun c1 => ?_) (fun c1 => ?_)
  · have h := it_t h c1
    cases h
    obtain ⟨sa9, hsa9⟩ := hKS.1 (123, "no such act in the log") (List.mem_of_getElem? (i := 5) rfl)
    rw [hQQ]
    exact vx_throwS hx hb hl0 (A := A) (own := RX4) (cls := "java/lang/IndexOutOfBoundsException") (text := "no such act in the log") (names := ["java/lang/RuntimeException", "java/lang/Exception"]) (ik := 121) (is := 123) (ic := 125) hown (by decide +kernel) (by decide +kernel) (hts _ lkX4_logged_0) (hts _ lkX4_logged_1) hsa9 (hKS.hat (fun w h => hts w (atX4_logged_125 w h)) nb_RX4_125) (go_RX4_125 121) hKZ.1 hKZ.2 hS (hl.1.trans hml.symm) dX4_logged_15 dX4_logged_18 dX4_logged_19 dX4_logged_21 dX4_logged_24 (fun x hx => (hno x hx).elim) (Nat.le_of_ble_eq_true rfl) (Nat.le_of_ble_eq_true rfl) (Nat.le_of_ble_eq_true rfl) (Nat.le_of_ble_eq_true rfl) hlocks (fun t ht hz hq => zz_XT hP hD hS hz hq) hS.2.2 (Nat.le_of_ble_eq_true rfl) (Nat.le_of_ble_eq_true rfl)
  · have h := it_f h c1
    refine lv_iload_n hx hb dX4_logged_4 rfl (lv_at hl 1 rfl) ?_
    refine lv_aload_n hx hb dX4_logged_5 rfl (lv_at hl 0 rfl) ?_
    refine va_get (D := D) (ci := 4) (v := .ref h_don) (C := RX4) (T := TX4) (N := 7) hx hb hts inX4_logged_X4 hown hK hP 0 rfl rfl 2 (by decide) (hts _ lkX4_logged_2) (fun _ h9 => h9) rfl dX4_logged_6 ?_
    obtain ⟨v2, hq3, h⟩ := bd1_e h
    refine zz_cV (As := []) ⟨hx, hb, hml, hown, hts⟩ (kX0_size l D cI cZ cL h_don h_dac ds N hq3) (cwV 0 hts gX4_logged_X0_size rfl rfl rfl (by decide +kernel) ⟨Nat.le_of_ble_eq_true rfl, Nat.le_of_ble_eq_true rfl⟩) (hP.sub (ws' := [(h_don, .inr (0, [.ref h_dac, .int ds]))]) [1] rfl) hKK (va_recv hK hP (ci := 0) (q0 := 1) rfl rfl) rfl hl.1 rfl (Nat.le_of_ble_eq_true rfl) dX4_logged_9 ⟨Nat.le_of_ble_eq_true rfl, Nat.le_of_ble_eq_true rfl⟩ ?_
    refine lv_icmp_lt (tgt := 25) hx hb dX4_logged_12 (by decide) (fun c4 => ?_) (fun c4 => ?_)
    · have h := it_t h c4
      refine lv_aload_n hx hb dX4_logged_25 rfl (lv_at hl 0 rfl) ?_
      refine va_get (D := D) (ci := 4) (v := .ref h_don) (C := RX4) (T := TX4) (N := 7) hx hb hts inX4_logged_X4 hown hK hP 0 rfl rfl 2 (by decide) (hts _ lkX4_logged_2) (fun _ h9 => h9) rfl dX4_logged_26 ?_
      refine lv_iload_n hx hb dX4_logged_29 rfl (lv_at hl 1 rfl) ?_
      obtain ⟨v5, hq6, h⟩ := bd1_e h
      refine zz_cV (As := [.int p0]) ⟨hx, hb, hml, hown, hts⟩ (kX0_latest l D cI cZ cL h_don h_dac ds 200 dac p0 N hq6) (cwV 1 hts gX4_logged_X0_latest rfl rfl rfl (by decide +kernel) ⟨Nat.le_of_ble_eq_true rfl, Nat.le_of_ble_eq_true rfl⟩) (hP.sub (ws' := [(h_don, .inr (0, [.ref h_dac, .int ds])), (h_dac, .inl (cI, 200, .inl dac))]) [1, 2] rfl) hKK (va_recv hK hP (ci := 0) (q0 := 1) rfl rfl) rfl hl.1 rfl (Nat.le_of_ble_eq_true rfl) dX4_logged_30 ⟨Nat.le_of_ble_eq_true rfl, Nat.le_of_ble_eq_true rfl⟩ ?_
      cases h
      rw [hQQ]
      refine vx_ret ?_
      refine W.widen (k := 1) (n := 6) (Nat.le_of_ble_eq_true rfl) (Nat.le_of_ble_eq_true rfl) ?_
      exact W.iret hx hb hr (fun t ht hW => ⟨_, rfl, rfl, by rw [ht]; exact hP, hD, hS.F ht⟩) hS.2.2 dX4_logged_33
    · have h := it_f h c4
      cases h
      obtain ⟨sa9, hsa9⟩ := hKS.1 (123, "no such act in the log") (List.mem_of_getElem? (i := 5) rfl)
      rw [hQQ]
      exact vx_throwS hx hb hl0 (A := A) (own := RX4) (cls := "java/lang/IndexOutOfBoundsException") (text := "no such act in the log") (names := ["java/lang/RuntimeException", "java/lang/Exception"]) (ik := 121) (is := 123) (ic := 125) hown (by decide +kernel) (by decide +kernel) (hts _ lkX4_logged_0) (hts _ lkX4_logged_1) hsa9 (hKS.hat (fun w h => hts w (atX4_logged_125 w h)) nb_RX4_125) (go_RX4_125 121) hKZ.1 hKZ.2 hS (hl.1.trans hml.symm) dX4_logged_15 dX4_logged_18 dX4_logged_19 dX4_logged_21 dX4_logged_24 (fun x hx => (hno x hx).elim) (Nat.le_of_ble_eq_true rfl) (Nat.le_of_ble_eq_true rfl) (Nat.le_of_ble_eq_true rfl) (Nat.le_of_ble_eq_true rfl) hlocks (fun t ht hz hq => zz_XT hP hD hS hz hq) hS.2.2 (Nat.le_of_ble_eq_true rfl) (Nat.le_of_ble_eq_true rfl)

def fX4_times (N : Nat) (nc : Int32) (sc : Int32) (br : Int32) (so : Int32) (lo : Int32) (ds : Int32) (dac : Nat → Int32) (p0 : Int32) (p1 : Int32) : Option (String ⊕ ((Int32))) :=
  bx0 (fX4_requireAct N nc sc br so lo p0 p1) (bd1 (fX4_actOf N  p0 p1) (fun v3 => bd1 (fX0_count N ds 200 dac v3) (fun v5 => some (.inr v5))))
set_option maxRecDepth 100000 in
theorem inX4_times_X4 : ∀ w ∈ wsX40, w ∈ wsX4_times := by decide +kernel
set_option maxRecDepth 100000 in
theorem lkX4_times_0 : (.fieldLink RX4 28 "Switchlog" "done" "LSwitchlog$ActRow;" : Cond) ∈ wsX4_times := by decide +kernel
abbrev rmX4_times : Room := { frames := 7, cells := 1, slots := 6, locals := 104 }
set_option maxHeartbeats 4000000 in
set_option maxRecDepth 100000 in
theorem kX4_times (l : Launch) (hl0 : l.stackTraces = false) (D : va_G) (cI cZ cL : ClassId) (sz0 : Nat) (h_x a_now a_wri a_per a_tho a_aft h_net a_ends h_don h_dac : Nat) (nc : Int32) (sc : Int32) (br : Int32) (so : Int32) (lo : Int32) (ds : Int32) (dac : Nat → Int32) (p0 : Int32) (p1 : Int32) (N : Nat) {R : String ⊕ ((Int32))} (h : fX4_times N nc sc br so lo ds dac p0 p1 = some R) : vx_Met l yX4_times wsX4_times rmX4_times (PT D cI cZ cL [.ref h_x, .int p0, .int p1] [(h_x, .inr (4, [.ref h_net, .ref a_now, .ref h_don, .ref a_wri, .ref a_per, .ref a_tho, .ref a_aft])), (h_net, .inr (1, [.ref a_ends, .int nc, .int sc, .int br, .int so, .int lo])), (h_don, .inr (0, [.ref h_dac, .int ds])), (h_dac, .inl (cI, 200, .inl dac))] sz0) (QT D (fun u => some (.int u)) (va_A [(h_x, .inr (4, [.ref h_net, .ref a_now, .ref h_don, .ref a_wri, .ref a_per, .ref a_tho, .ref a_aft])), (h_net, .inr (1, [.ref a_ends, .int nc, .int sc, .int br, .int so, .int lo])), (h_don, .inr (0, [.ref h_dac, .int ds])), (h_dac, .inl (cI, 200, .inl dac))] sz0) (fun u : (Int32) => [(h_x, .inr (4, [.ref h_net, .ref a_now, .ref h_don, .ref a_wri, .ref a_per, .ref a_tho, .ref a_aft])), (h_net, .inr (1, [.ref a_ends, .int nc, .int sc, .int br, .int so, .int lo])), (h_don, .inr (0, [.ref h_dac, .int ds])), (h_dac, .inl (cI, 200, .inl dac))]) R) (XT D (va_A [(h_x, .inr (4, [.ref h_net, .ref a_now, .ref h_don, .ref a_wri, .ref a_per, .ref a_tho, .ref a_aft])), (h_net, .inr (1, [.ref a_ends, .int nc, .int sc, .int br, .int so, .int lo])), (h_don, .inr (0, [.ref h_dac, .int ds])), (h_dac, .inl (cI, 200, .inl dac))] sz0) [(h_x, .inr (4, [.ref h_net, .ref a_now, .ref h_don, .ref a_wri, .ref a_per, .ref a_tho, .ref a_aft])), (h_net, .inr (1, [.ref a_ends, .int nc, .int sc, .int br, .int so, .int lo])), (h_don, .inr (0, [.ref h_dac, .int ds])), (h_dac, .inl (cI, 200, .inl dac))] R) 1 6 (va_A [(h_x, .inr (4, [.ref h_net, .ref a_now, .ref h_don, .ref a_wri, .ref a_per, .ref a_tho, .ref a_aft])), (h_net, .inr (1, [.ref a_ends, .int nc, .int sc, .int br, .int so, .int lo])), (h_don, .inr (0, [.ref h_dac, .int ds])), (h_dac, .inl (cI, 200, .inl dac))] sz0) := by
  refine vx_ofW (cc := cX4_times) (maxL := 3) (ret := (some .int)) (by decide) rfl ?_
  intro p e s m args below meth c s₁ B hml hno hv
  obtain ⟨rfl, hsz, hP, hKK, hD0, hKS, hKZ⟩ := hv
  have hK := hKK.1
  have hx := B.exec
  have hb := B.bytes
  have hr := B.returns
  have hts := atoms_spec (ws := wsX4_times) B.pre
  have hown : s.vm.findClass RX4 = some m.cls := findClass_of_methodNamed B.named
  have hlocks := B.notSynchronized
  subst hsz
  have hD := hD0.self (sz := s.heap.size)
  generalize hAe : va_A [(h_x, .inr (4, [.ref h_net, .ref a_now, .ref h_don, .ref a_wri, .ref a_per, .ref a_tho, .ref a_aft])), (h_net, .inr (1, [.ref a_ends, .int nc, .int sc, .int br, .int so, .int lo])), (h_don, .inr (0, [.ref h_dac, .int ds])), (h_dac, .inl (cI, 200, .inl dac))] s.heap.size = A at hD hKZ ⊢
  have hA : ∀ q : Nat, s.heap.size ≤ q → A q := fun q h => by rw [← hAe]; exact Or.inr h
  have hS : va_S A s.heap s.heap [] := va_S.rf
  have hl := lv_entry ([.ref h_x, .int p0, .int p1]) (n := 3) (Nat.le_of_ble_eq_true rfl)
  rw [lg_entry_eq]
  generalize (lg_sl ([.ref h_x, .int p0, .int p1]) ++ List.replicate (3 - (lg_sl ([.ref h_x, .int p0, .int p1])).length) Slot.unset).toArray = ls at hl ⊢
  have hl : lv_has ls 3 [(0, .ref h_x), (1, .int p0), (2, .int p1)] := hl
  obtain ⟨QQ, hQQ⟩ : ∃ Z, Z = vx_MQ below (QT D (fun u => some (.int u)) A (fun u : (Int32) => [(h_x, .inr (4, [.ref h_net, .ref a_now, .ref h_don, .ref a_wri, .ref a_per, .ref a_tho, .ref a_aft])), (h_net, .inr (1, [.ref a_ends, .int nc, .int sc, .int br, .int so, .int lo])), (h_don, .inr (0, [.ref h_dac, .int ds])), (h_dac, .inl (cI, 200, .inl dac))]) R) (XT D A [(h_x, .inr (4, [.ref h_net, .ref a_now, .ref h_don, .ref a_wri, .ref a_per, .ref a_tho, .ref a_aft])), (h_net, .inr (1, [.ref a_ends, .int nc, .int sc, .int br, .int so, .int lo])), (h_don, .inr (0, [.ref h_dac, .int ds])), (h_dac, .inl (cI, 200, .inl dac))] R) ([.ref h_x, .int p0, .int p1] : List Value).toArray s 1 6 A := ⟨_, rfl⟩
  rw [← hQQ]
  obtain ⟨H, locs, hHe, hLe⟩ : ∃ (H : Heap) (locs : List Loc), H = s.heap ∧ locs = [] := ⟨_, _, rfl, rfl⟩
  have hP : va_P D vwCl [(h_x, .inr (4, [.ref h_net, .ref a_now, .ref h_don, .ref a_wri, .ref a_per, .ref a_tho, .ref a_aft])), (h_net, .inr (1, [.ref a_ends, .int nc, .int sc, .int br, .int so, .int lo])), (h_don, .inr (0, [.ref h_dac, .int ds])), (h_dac, .inl (cI, 200, .inl dac))] H := by rw [hHe]; exact hP
  have hS : va_S A s.heap H locs := by rw [hHe, hLe]; exact hS
  have hW0 : ∀ QQ : State → Prop, W p l e (headSpec wsX4_times rmX4_times).room s m (([.ref h_x, .int p0, .int p1] : List Value).toArray) below meth c H locs 0 0 QQ (F0 m 0 ls []) → W p l e (headSpec wsX4_times rmX4_times).room s m (([.ref h_x, .int p0, .int p1] : List Value).toArray) below meth c s.heap [] 0 0 QQ (F0 m 0 ls []) := by rw [hHe, hLe]; exact fun _ h => h
  refine hW0 _ ?_
  clear hW0
  unfold fX4_times at h
  refine lv_aload_n hx hb dX4_times_0 rfl (lv_at hl 0 rfl) ?_
  refine lv_iload_n hx hb dX4_times_1 rfl (lv_at hl 1 rfl) ?_
  refine lv_iload_n hx hb dX4_times_2 rfl (lv_at hl 2 rfl) ?_
  obtain ⟨R2, hq1, hx1, hk1⟩ := bx0_r h
  refine zz_xV (As := [.int p0, .int p1]) (wr := [(h_don, .inr (0, [.ref h_dac, .int ds])), (h_dac, .inl (cI, 200, .inl dac))]) (w1 := fun u : Unit => [(h_x, .inr (4, [.ref h_net, .ref a_now, .ref h_don, .ref a_wri, .ref a_per, .ref a_tho, .ref a_aft])), (h_net, .inr (1, [.ref a_ends, .int nc, .int sc, .int br, .int so, .int lo]))]) (wt' := fun u : Unit => [(h_x, .inr (4, [.ref h_net, .ref a_now, .ref h_don, .ref a_wri, .ref a_per, .ref a_tho, .ref a_aft])), (h_net, .inr (1, [.ref a_ends, .int nc, .int sc, .int br, .int so, .int lo])), (h_don, .inr (0, [.ref h_dac, .int ds])), (h_dac, .inl (cI, 200, .inl dac))]) (wc := [(h_x, .inr (4, [.ref h_net, .ref a_now, .ref h_don, .ref a_wri, .ref a_per, .ref a_tho, .ref a_aft])), (h_net, .inr (1, [.ref a_ends, .int nc, .int sc, .int br, .int so, .int lo]))]) (rv := fun _ => none) ⟨hx, hb, hml, hown, hts⟩ (kX4_requireAct l hl0 D cI cZ cL H.size h_x a_now h_don a_wri a_per a_tho a_aft h_net a_ends nc sc br so lo p0 p1 N hq1) (cwV 2 hts gX4_times_X4_requireAct rfl rfl rfl (by decide +kernel) ⟨Nat.le_of_ble_eq_true rfl, Nat.le_of_ble_eq_true rfl⟩) hP hD hS hA hKK hKS hKZ [0, 1] [2, 3] [2, 3, 0, 1] rfl rfl (by decide) (by decide) (fun _ => rfl) rfl (by decide) (by decide) (va_recv hK hP (ci := 4) (q0 := 0) rfl rfl) rfl hl.1 rfl (Nat.le_of_ble_eq_true rfl) dX4_times_3 ⟨Nat.le_of_ble_eq_true rfl, Nat.le_of_ble_eq_true rfl⟩ (fun E ce q9 H locs hE hP hD hS h1 h2 h3 => ?_) (fun u H locs hu hP hD hS => ?_)
  · have hE2 := hx1 E hE
    subst hE2
    rw [hQQ]
    exact vx_out (fun x hx => (hno x hx).elim) hlocks h1 h2 h3 (fun t ht hvm => zz_XT hP hD hS (by rw [ht]; exact Nat.le_refl _) (fun q _ => by rw [ht])) hS.2.2 (Nat.le_of_ble_eq_true rfl) (Nat.le_of_ble_eq_true rfl)
  · have h := hk1 _ hu
    have hP : va_P D vwCl [(h_x, .inr (4, [.ref h_net, .ref a_now, .ref h_don, .ref a_wri, .ref a_per, .ref a_tho, .ref a_aft])), (h_net, .inr (1, [.ref a_ends, .int nc, .int sc, .int br, .int so, .int lo])), (h_don, .inr (0, [.ref h_dac, .int ds])), (h_dac, .inl (cI, 200, .inl dac))] H := hP
    have hD : va_D A [(h_x, .inr (4, [.ref h_net, .ref a_now, .ref h_don, .ref a_wri, .ref a_per, .ref a_tho, .ref a_aft])), (h_net, .inr (1, [.ref a_ends, .int nc, .int sc, .int br, .int so, .int lo])), (h_don, .inr (0, [.ref h_dac, .int ds])), (h_dac, .inl (cI, 200, .inl dac))] := hD
    show W p l e _ s m _ below meth c H locs _ _ QQ (F0 m 6 ls ([]))
    refine lv_aload_n hx hb dX4_times_6 rfl (lv_at hl 0 rfl) ?_
    refine va_get (D := D) (ci := 4) (v := .ref h_don) (C := RX4) (T := TX4) (N := 7) hx hb hts inX4_times_X4 hown hK hP 0 rfl rfl 2 (by decide) (hts _ lkX4_times_0) (fun _ h9 => h9) rfl dX4_times_7 ?_
    refine lv_iload_n hx hb dX4_times_10 rfl (lv_at hl 1 rfl) ?_
    refine lv_iload_n hx hb dX4_times_11 rfl (lv_at hl 2 rfl) ?_
    obtain ⟨v3, hq4, h⟩ := bd1_e h
    refine zz_cS (As := [.int p0, .int p1]) ⟨hx, hb, hml, hown, hts⟩ (kX4_actOf l D cI cZ cL p0 p1 N hq4) (va_cwS 2 hts gX4_times_X4_actOf rfl rfl rfl (by decide +kernel) ⟨Nat.le_of_ble_eq_true rfl, Nat.le_of_ble_eq_true rfl⟩) (hP.sub (ws' := []) [] rfl) hKK rfl hl.1 rfl (Nat.le_of_ble_eq_true rfl) dX4_times_12 ⟨Nat.le_of_ble_eq_true rfl, Nat.le_of_ble_eq_true rfl⟩ ?_
    obtain ⟨v5, hq6, h⟩ := bd1_e h
    refine zz_cV (As := [.int v3]) ⟨hx, hb, hml, hown, hts⟩ (kX0_count l D cI cZ cL h_don h_dac ds 200 dac v3 N hq6) (cwV 1 hts gX4_times_X0_count rfl rfl rfl (by decide +kernel) ⟨Nat.le_of_ble_eq_true rfl, Nat.le_of_ble_eq_true rfl⟩) (hP.sub (ws' := [(h_don, .inr (0, [.ref h_dac, .int ds])), (h_dac, .inl (cI, 200, .inl dac))]) [2, 3] rfl) hKK (va_recv hK hP (ci := 0) (q0 := 2) rfl rfl) rfl hl.1 rfl (Nat.le_of_ble_eq_true rfl) dX4_times_15 ⟨Nat.le_of_ble_eq_true rfl, Nat.le_of_ble_eq_true rfl⟩ ?_
    cases h
    rw [hQQ]
    refine vx_ret ?_
    refine W.widen (k := 1) (n := 6) (Nat.le_of_ble_eq_true rfl) (Nat.le_of_ble_eq_true rfl) ?_
    exact W.iret hx hb hr (fun t ht hW => ⟨_, rfl, rfl, by rw [ht]; exact hP, hD, hS.F ht⟩) hS.2.2 dX4_times_18

def fX4_write (N : Nat) (nc : Int32) (sc : Int32) (br : Int32) (so : Int32) (lo : Int32) (rs : Int32) (rac : Nat → Int32) (p0 : Int32) (p1 : Int32) : Option (String ⊕ ((Int32) × (Int32) × (Nat → Int32))) :=
  bx0 (fX4_requireAct N nc sc br so lo p0 p1) (bd1 (fX0_size N rs) (fun v3 => (if v3 < 30 then bd1 (fX4_actOf N  p0 p1) (fun v6 => bd2 (fX0_append N rs 30 rac v6) (fun w9 w10 => bd1 (fX0_size N w10) (fun v11 => some (.inr (v11, w10, w9))))) else some (.inl "java/lang/IllegalStateException"))))
set_option maxRecDepth 100000 in
theorem inX4_write_X4 : ∀ w ∈ wsX40, w ∈ wsX4_write := by decide +kernel
set_option maxRecDepth 100000 in
theorem lkX4_write_0 : (.fieldLink RX4 32 "Switchlog" "written" "LSwitchlog$ActRow;" : Cond) ∈ wsX4_write := by decide +kernel
set_option maxRecDepth 100000 in
theorem lkX4_write_1 : (.classLink RX4 52 "java/lang/IllegalStateException" : Cond) ∈ wsX4_write := by decide +kernel
set_option maxRecDepth 100000 in
theorem lkX4_write_2 : (.initialized "java/lang/IllegalStateException" : Cond) ∈ wsX4_write := by decide +kernel
set_option maxRecDepth 100000 in
theorem atX4_write_56 : ∀ w ∈ (vx_atS RX4 56 "java/lang/IllegalStateException" ["java/lang/RuntimeException", "java/lang/Exception"]).filter goodWord, w ∈ wsX4_write := by decide +kernel
abbrev rmX4_write : Room := { frames := 7, cells := 2, slots := 12, locals := 104 }
set_option maxHeartbeats 4000000 in
set_option maxRecDepth 100000 in
theorem kX4_write (l : Launch) (hl0 : l.stackTraces = false) (D : va_G) (cI cZ cL : ClassId) (sz0 : Nat) (h_x a_now a_don a_per a_tho a_aft h_net a_ends h_wri h_rac : Nat) (nc : Int32) (sc : Int32) (br : Int32) (so : Int32) (lo : Int32) (rs : Int32) (rac : Nat → Int32) (p0 : Int32) (p1 : Int32) (N : Nat) {R : String ⊕ ((Int32) × (Int32) × (Nat → Int32))} (h : fX4_write N nc sc br so lo rs rac p0 p1 = some R) : vx_Met l yX4_write wsX4_write rmX4_write (PT D cI cZ cL [.ref h_x, .int p0, .int p1] [(h_x, .inr (4, [.ref h_net, .ref a_now, .ref a_don, .ref h_wri, .ref a_per, .ref a_tho, .ref a_aft])), (h_net, .inr (1, [.ref a_ends, .int nc, .int sc, .int br, .int so, .int lo])), (h_wri, .inr (0, [.ref h_rac, .int rs])), (h_rac, .inl (cI, 30, .inl rac))] sz0) (QT D (fun u => some (.int u.1)) (va_A [(h_x, .inr (4, [.ref h_net, .ref a_now, .ref a_don, .ref h_wri, .ref a_per, .ref a_tho, .ref a_aft])), (h_net, .inr (1, [.ref a_ends, .int nc, .int sc, .int br, .int so, .int lo])), (h_wri, .inr (0, [.ref h_rac, .int rs])), (h_rac, .inl (cI, 30, .inl rac))] sz0) (fun u : (Int32) × (Int32) × (Nat → Int32) => [(h_x, .inr (4, [.ref h_net, .ref a_now, .ref a_don, .ref h_wri, .ref a_per, .ref a_tho, .ref a_aft])), (h_net, .inr (1, [.ref a_ends, .int nc, .int sc, .int br, .int so, .int lo])), (h_wri, .inr (0, [.ref h_rac, .int u.2.1])), (h_rac, .inl (cI, 30, .inl u.2.2))]) R) (XT D (va_A [(h_x, .inr (4, [.ref h_net, .ref a_now, .ref a_don, .ref h_wri, .ref a_per, .ref a_tho, .ref a_aft])), (h_net, .inr (1, [.ref a_ends, .int nc, .int sc, .int br, .int so, .int lo])), (h_wri, .inr (0, [.ref h_rac, .int rs])), (h_rac, .inl (cI, 30, .inl rac))] sz0) [(h_x, .inr (4, [.ref h_net, .ref a_now, .ref a_don, .ref h_wri, .ref a_per, .ref a_tho, .ref a_aft])), (h_net, .inr (1, [.ref a_ends, .int nc, .int sc, .int br, .int so, .int lo])), (h_wri, .inr (0, [.ref h_rac, .int rs])), (h_rac, .inl (cI, 30, .inl rac))] R) 2 12 (va_A [(h_x, .inr (4, [.ref h_net, .ref a_now, .ref a_don, .ref h_wri, .ref a_per, .ref a_tho, .ref a_aft])), (h_net, .inr (1, [.ref a_ends, .int nc, .int sc, .int br, .int so, .int lo])), (h_wri, .inr (0, [.ref h_rac, .int rs])), (h_rac, .inl (cI, 30, .inl rac))] sz0) := by
  refine vx_ofW (cc := cX4_write) (maxL := 3) (ret := (some .int)) (by decide) rfl ?_
  intro p e s m args below meth c s₁ B hml hno hv
  obtain ⟨rfl, hsz, hP, hKK, hD0, hKS, hKZ⟩ := hv
  have hK := hKK.1
  have hx := B.exec
  have hb := B.bytes
  have hr := B.returns
  have hts := atoms_spec (ws := wsX4_write) B.pre
  have hown : s.vm.findClass RX4 = some m.cls := findClass_of_methodNamed B.named
  have hlocks := B.notSynchronized
  subst hsz
  have hD := hD0.self (sz := s.heap.size)
  generalize hAe : va_A [(h_x, .inr (4, [.ref h_net, .ref a_now, .ref a_don, .ref h_wri, .ref a_per, .ref a_tho, .ref a_aft])), (h_net, .inr (1, [.ref a_ends, .int nc, .int sc, .int br, .int so, .int lo])), (h_wri, .inr (0, [.ref h_rac, .int rs])), (h_rac, .inl (cI, 30, .inl rac))] s.heap.size = A at hD hKZ ⊢
  have hA : ∀ q : Nat, s.heap.size ≤ q → A q := fun q h => by rw [← hAe]; exact Or.inr h
  have hS : va_S A s.heap s.heap [] := va_S.rf
  have hl := lv_entry ([.ref h_x, .int p0, .int p1]) (n := 3) (Nat.le_of_ble_eq_true rfl)
  rw [lg_entry_eq]
  generalize (lg_sl ([.ref h_x, .int p0, .int p1]) ++ List.replicate (3 - (lg_sl ([.ref h_x, .int p0, .int p1])).length) Slot.unset).toArray = ls at hl ⊢
  have hl : lv_has ls 3 [(0, .ref h_x), (1, .int p0), (2, .int p1)] := hl
  obtain ⟨QQ, hQQ⟩ : ∃ Z, Z = vx_MQ below (QT D (fun u => some (.int u.1)) A (fun u : (Int32) × (Int32) × (Nat → Int32) => [(h_x, .inr (4, [.ref h_net, .ref a_now, .ref a_don, .ref h_wri, .ref a_per, .ref a_tho, .ref a_aft])), (h_net, .inr (1, [.ref a_ends, .int nc, .int sc, .int br, .int so, .int lo])), (h_wri, .inr (0, [.ref h_rac, .int u.2.1])), (h_rac, .inl (cI, 30, .inl u.2.2))]) R) (XT D A [(h_x, .inr (4, [.ref h_net, .ref a_now, .ref a_don, .ref h_wri, .ref a_per, .ref a_tho, .ref a_aft])), (h_net, .inr (1, [.ref a_ends, .int nc, .int sc, .int br, .int so, .int lo])), (h_wri, .inr (0, [.ref h_rac, .int rs])), (h_rac, .inl (cI, 30, .inl rac))] R) ([.ref h_x, .int p0, .int p1] : List Value).toArray s 2 12 A := ⟨_, rfl⟩
  rw [← hQQ]
  obtain ⟨H, locs, hHe, hLe⟩ : ∃ (H : Heap) (locs : List Loc), H = s.heap ∧ locs = [] := ⟨_, _, rfl, rfl⟩
  have hP : va_P D vwCl [(h_x, .inr (4, [.ref h_net, .ref a_now, .ref a_don, .ref h_wri, .ref a_per, .ref a_tho, .ref a_aft])), (h_net, .inr (1, [.ref a_ends, .int nc, .int sc, .int br, .int so, .int lo])), (h_wri, .inr (0, [.ref h_rac, .int rs])), (h_rac, .inl (cI, 30, .inl rac))] H := by rw [hHe]; exact hP
  have hS : va_S A s.heap H locs := by rw [hHe, hLe]; exact hS
  have hW0 : ∀ QQ : State → Prop, W p l e (headSpec wsX4_write rmX4_write).room s m (([.ref h_x, .int p0, .int p1] : List Value).toArray) below meth c H locs 0 0 QQ (F0 m 0 ls []) → W p l e (headSpec wsX4_write rmX4_write).room s m (([.ref h_x, .int p0, .int p1] : List Value).toArray) below meth c s.heap [] 0 0 QQ (F0 m 0 ls []) := by rw [hHe, hLe]; exact fun _ h => h
  refine hW0 _ ?_
  clear hW0
  unfold fX4_write at h
  refine lv_aload_n hx hb dX4_write_0 rfl (lv_at hl 0 rfl) ?_
  refine lv_iload_n hx hb dX4_write_1 rfl (lv_at hl 1 rfl) ?_
  refine lv_iload_n hx hb dX4_write_2 rfl (lv_at hl 2 rfl) ?_
  obtain ⟨R2, hq1, hx1, hk1⟩ := bx0_r h
  refine zz_xV (As := [.int p0, .int p1]) (wr := [(h_wri, .inr (0, [.ref h_rac, .int rs])), (h_rac, .inl (cI, 30, .inl rac))]) (w1 := fun u : Unit => [(h_x, .inr (4, [.ref h_net, .ref a_now, .ref a_don, .ref h_wri, .ref a_per, .ref a_tho, .ref a_aft])), (h_net, .inr (1, [.ref a_ends, .int nc, .int sc, .int br, .int so, .int lo]))]) (wt' := fun u : Unit => [(h_x, .inr (4, [.ref h_net, .ref a_now, .ref a_don, .ref h_wri, .ref a_per, .ref a_tho, .ref a_aft])), (h_net, .inr (1, [.ref a_ends, .int nc, .int sc, .int br, .int so, .int lo])), (h_wri, .inr (0, [.ref h_rac, .int rs])), (h_rac, .inl (cI, 30, .inl rac))]) (wc := [(h_x, .inr (4, [.ref h_net, .ref a_now, .ref a_don, .ref h_wri, .ref a_per, .ref a_tho, .ref a_aft])), (h_net, .inr (1, [.ref a_ends, .int nc, .int sc, .int br, .int so, .int lo]))]) (rv := fun _ => none) ⟨hx, hb, hml, hown, hts⟩ (kX4_requireAct l hl0 D cI cZ cL H.size h_x a_now a_don h_wri a_per a_tho a_aft h_net a_ends nc sc br so lo p0 p1 N hq1) (cwV 2 hts gX4_write_X4_requireAct rfl rfl rfl (by decide +kernel) ⟨Nat.le_of_ble_eq_true rfl, Nat.le_of_ble_eq_true rfl⟩) hP hD hS hA hKK hKS hKZ [0, 1] [2, 3] [2, 3, 0, 1] rfl rfl (by decide) (by decide) (fun _ => rfl) rfl (by decide) (by decide) (va_recv hK hP (ci := 4) (q0 := 0) rfl rfl) rfl hl.1 rfl (Nat.le_of_ble_eq_true rfl) dX4_write_3 ⟨Nat.le_of_ble_eq_true rfl, Nat.le_of_ble_eq_true rfl⟩ (fun E ce q9 H locs hE hP hD hS h1 h2 h3 => ?_) (fun u H locs hu hP hD hS => ?_)
  · have hE2 := hx1 E hE
    subst hE2
    rw [hQQ]
    exact vx_out (fun x hx => (hno x hx).elim) hlocks h1 h2 h3 (fun t ht hvm => zz_XT hP hD hS (by rw [ht]; exact Nat.le_refl _) (fun q _ => by rw [ht])) hS.2.2 (Nat.le_of_ble_eq_true rfl) (Nat.le_of_ble_eq_true rfl)
  · have h := hk1 _ hu
    have hP : va_P D vwCl [(h_x, .inr (4, [.ref h_net, .ref a_now, .ref a_don, .ref h_wri, .ref a_per, .ref a_tho, .ref a_aft])), (h_net, .inr (1, [.ref a_ends, .int nc, .int sc, .int br, .int so, .int lo])), (h_wri, .inr (0, [.ref h_rac, .int rs])), (h_rac, .inl (cI, 30, .inl rac))] H := hP
    have hD : va_D A [(h_x, .inr (4, [.ref h_net, .ref a_now, .ref a_don, .ref h_wri, .ref a_per, .ref a_tho, .ref a_aft])), (h_net, .inr (1, [.ref a_ends, .int nc, .int sc, .int br, .int so, .int lo])), (h_wri, .inr (0, [.ref h_rac, .int rs])), (h_rac, .inl (cI, 30, .inl rac))] := hD
    show W p l e _ s m _ below meth c H locs _ _ QQ (F0 m 6 ls ([]))
    refine lv_aload_n hx hb dX4_write_6 rfl (lv_at hl 0 rfl) ?_
    refine va_get (D := D) (ci := 4) (v := .ref h_wri) (C := RX4) (T := TX4) (N := 7) hx hb hts inX4_write_X4 hown hK hP 0 rfl rfl 3 (by decide) (hts _ lkX4_write_0) (fun _ h9 => h9) rfl dX4_write_7 ?_
    obtain ⟨v3, hq4, h⟩ := bd1_e h
    refine zz_cV (As := []) ⟨hx, hb, hml, hown, hts⟩ (kX0_size l D cI cZ cL h_wri h_rac rs N hq4) (cwV 0 hts gX4_write_X0_size rfl rfl rfl (by decide +kernel) ⟨Nat.le_of_ble_eq_true rfl, Nat.le_of_ble_eq_true rfl⟩) (hP.sub (ws' := [(h_wri, .inr (0, [.ref h_rac, .int rs]))]) [2] rfl) hKK (va_recv hK hP (ci := 0) (q0 := 2) rfl rfl) rfl hl.1 rfl (Nat.le_of_ble_eq_true rfl) dX4_write_10 ⟨Nat.le_of_ble_eq_true rfl, Nat.le_of_ble_eq_true rfl⟩ ?_
    refine lv_bipush (v := 30) hx hb dX4_write_13 (by decide) ?_
    refine lv_icmp_lt (tgt := 28) hx hb dX4_write_15 (by decide) (fun c5 => ?_) (fun c5 => ?_)
    · have h := it_t h c5
      refine lv_aload_n hx hb dX4_write_28 rfl (lv_at hl 0 rfl) ?_
      refine va_get (D := D) (ci := 4) (v := .ref h_wri) (C := RX4) (T := TX4) (N := 7) hx hb hts inX4_write_X4 hown hK hP 0 rfl rfl 3 (by decide) (hts _ lkX4_write_0) (fun _ h9 => h9) rfl dX4_write_29 ?_
      refine lv_iload_n hx hb dX4_write_32 rfl (lv_at hl 1 rfl) ?_
      refine lv_iload_n hx hb dX4_write_33 rfl (lv_at hl 2 rfl) ?_
      obtain ⟨v6, hq7, h⟩ := bd1_e h
      refine zz_cS (As := [.int p0, .int p1]) ⟨hx, hb, hml, hown, hts⟩ (kX4_actOf l D cI cZ cL p0 p1 N hq7) (va_cwS 2 hts gX4_write_X4_actOf rfl rfl rfl (by decide +kernel) ⟨Nat.le_of_ble_eq_true rfl, Nat.le_of_ble_eq_true rfl⟩) (hP.sub (ws' := []) [] rfl) hKK rfl hl.1 rfl (Nat.le_of_ble_eq_true rfl) dX4_write_34 ⟨Nat.le_of_ble_eq_true rfl, Nat.le_of_ble_eq_true rfl⟩ ?_
      obtain ⟨w9, w10, hq8, h⟩ := bd2_e h
      refine zz_mV (As := [.int v6]) (wr := [(h_x, .inr (4, [.ref h_net, .ref a_now, .ref a_don, .ref h_wri, .ref a_per, .ref a_tho, .ref a_aft])), (h_net, .inr (1, [.ref a_ends, .int nc, .int sc, .int br, .int so, .int lo]))]) (w1 := [(h_wri, .inr (0, [.ref h_rac, .int w10])), (h_rac, .inl (cI, 30, .inl w9))]) (wt' := [(h_x, .inr (4, [.ref h_net, .ref a_now, .ref a_don, .ref h_wri, .ref a_per, .ref a_tho, .ref a_aft])), (h_net, .inr (1, [.ref a_ends, .int nc, .int sc, .int br, .int so, .int lo])), (h_wri, .inr (0, [.ref h_rac, .int w10])), (h_rac, .inl (cI, 30, .inl w9))]) (wc := [(h_wri, .inr (0, [.ref h_rac, .int rs])), (h_rac, .inl (cI, 30, .inl rac))]) (rv := none) ⟨hx, hb, hml, hown, hts⟩ (kX0_append l D cI cZ cL H.size h_wri h_rac rs 30 rac v6 N hq8) (cwV 1 hts gX4_write_X0_append rfl rfl rfl (by decide +kernel) ⟨Nat.le_of_ble_eq_true rfl, Nat.le_of_ble_eq_true rfl⟩) hP hD hS hA hKK [2, 3] [0, 1] [0, 1, 2, 3] rfl rfl (by decide) (by decide) rfl (by decide) (by decide) (va_recv hK hP (ci := 0) (q0 := 2) rfl rfl) rfl hl.1 rfl (Nat.le_of_ble_eq_true rfl) dX4_write_37 ⟨Nat.le_of_ble_eq_true rfl, Nat.le_of_ble_eq_true rfl⟩ (fun H locs hP hD hS hz9 => ?_)
      show W p l e _ s m _ below meth c H locs _ _ QQ (F0 m 40 ls [])
      refine lv_aload_n hx hb dX4_write_40 rfl (lv_at hl 0 rfl) ?_
      refine va_get (D := D) (ci := 4) (v := .ref h_wri) (C := RX4) (T := TX4) (N := 7) hx hb hts inX4_write_X4 hown hK hP 0 rfl rfl 3 (by decide) (hts _ lkX4_write_0) (fun _ h9 => h9) rfl dX4_write_41 ?_
      obtain ⟨v11, hq12, h⟩ := bd1_e h
      refine zz_cV (As := []) ⟨hx, hb, hml, hown, hts⟩ (kX0_size l D cI cZ cL h_wri h_rac w10 N hq12) (cwV 0 hts gX4_write_X0_size rfl rfl rfl (by decide +kernel) ⟨Nat.le_of_ble_eq_true rfl, Nat.le_of_ble_eq_true rfl⟩) (hP.sub (ws' := [(h_wri, .inr (0, [.ref h_rac, .int w10]))]) [2] rfl) hKK (va_recv hK hP (ci := 0) (q0 := 2) rfl rfl) rfl hl.1 rfl (Nat.le_of_ble_eq_true rfl) dX4_write_44 ⟨Nat.le_of_ble_eq_true rfl, Nat.le_of_ble_eq_true rfl⟩ ?_
      cases h
      rw [hQQ]
      refine vx_ret ?_
      refine W.widen (k := 2) (n := 12) (Nat.le_of_ble_eq_true rfl) (Nat.le_of_ble_eq_true rfl) ?_
      exact W.iret hx hb hr (fun t ht hW => ⟨_, rfl, rfl, by rw [ht]; exact hP, hD, hS.F ht⟩) hS.2.2 dX4_write_47
    · have h := it_f h c5
      cases h
      obtain ⟨sa9, hsa9⟩ := hKS.1 (129, "the sequence has 30 acts") (List.mem_of_getElem? (i := 6) rfl)
      rw [hQQ]
      exact vx_throwS hx hb hl0 (A := A) (own := RX4) (cls := "java/lang/IllegalStateException") (text := "the sequence has 30 acts") (names := ["java/lang/RuntimeException", "java/lang/Exception"]) (ik := 52) (is := 129) (ic := 56) hown (by decide +kernel) (by decide +kernel) (hts _ lkX4_write_1) (hts _ lkX4_write_2) hsa9 (hKS.hat (fun w h => hts w (atX4_write_56 w h)) nb_RX4_56) (go_RX4_56 52) hKZ.1 hKZ.2 hS (hl.1.trans hml.symm) dX4_write_18 dX4_write_21 dX4_write_22 dX4_write_24 dX4_write_27 (fun x hx => (hno x hx).elim) (Nat.le_of_ble_eq_true rfl) (Nat.le_of_ble_eq_true rfl) (Nat.le_of_ble_eq_true rfl) (Nat.le_of_ble_eq_true rfl) hlocks (fun t ht hz hq => zz_XT hP hD hS hz hq) hS.2.2 (Nat.le_of_ble_eq_true rfl) (Nat.le_of_ble_eq_true rfl)

def fX4_carryOut (N : Nat) (nc : Int32) (sc : Int32) (br : Int32) (so : Int32) (lo : Int32) (ends : Nat → Int32) (cl : Int32) (ea : Int32) (on : Int32) (ds : Int32) (dac : Nat → Int32) (rs : Int32) (rac : Nat → Int32) (pg : Int32) (hol : Nat → Int32) (ac : Int32) (ae : Int32) (ao : Int32) (p0 : Int32) : Option (String ⊕ ((Int32) × (Int32) × (Int32) × (Int32) × (Int32) × (Nat → Int32) × (Int32) × (Nat → Int32) × (Int32) × (Int32) × (Int32))) :=
  (if p0 < 1 then some (.inl "java/lang/IllegalArgumentException") else (if p0 ≤ 30 then bd1 (fX0_size N rs) (fun v3 => bd1 (fX0_size N ds) (fun v5 => (if (v5 + (if v3 < p0 then v3 else p0)) ≤ 200 then it11 (fun g60_19 (x8 : Int32) (w9 : Int32) (w10 : Int32) (w11 : Int32) (w12 : Int32) (w13 : Nat → Int32) (w14 : Int32) (w15 : Nat → Int32) (w16 : Int32) (w17 : Int32) (w18 : Int32) => (if (if v3 < p0 then v3 else p0) ≤ x8 then bd2 (fX0_dropFirst N w14 30 w15 x8) (fun w23 w24 => some (.inr (x8, w9, w10, w11, w12, w13, w24, w23, w16, w17, w18))) else bd1 (fX0_get N w14 30 w15 x8) (fun v25 => bd9 (fX4_doAndLog N nc sc br so lo ends w9 w10 w11 w12 w13 pg hol w16 w17 w18 v25) (fun v28 w29 w30 w31 w32 w33 w34 w35 w36 => (if v28 = 0 then g60_19 (x8 + 1) w29 w30 w31 w32 w33 w14 w15 w34 w35 w36 else bd2 (fX0_dropFirst N w14 30 w15 x8) (fun w39 w40 => some (.inr (x8, w29, w30, w31, w32, w33, w40, w39, w34, w35, w36)))))))) N 0 cl ea on ds dac rs rac ac ae ao else some (.inl "java/lang/IllegalStateException")))) else some (.inl "java/lang/IllegalArgumentException")))
set_option maxRecDepth 100000 in
theorem inX4_carryOut_X4 : ∀ w ∈ wsX40, w ∈ wsX4_carryOut := by decide +kernel
set_option maxRecDepth 100000 in
theorem lkX4_carryOut_0 : (.classLink RX4 66 "java/lang/IllegalArgumentException" : Cond) ∈ wsX4_carryOut := by decide +kernel
set_option maxRecDepth 100000 in
theorem lkX4_carryOut_1 : (.initialized "java/lang/IllegalArgumentException" : Cond) ∈ wsX4_carryOut := by decide +kernel
set_option maxRecDepth 100000 in
theorem lkX4_carryOut_2 : (.fieldLink RX4 32 "Switchlog" "written" "LSwitchlog$ActRow;" : Cond) ∈ wsX4_carryOut := by decide +kernel
set_option maxRecDepth 100000 in
theorem lkX4_carryOut_3 : (.methodLink RX4 146 Lib.Math.min.name : Cond) ∈ wsX4_carryOut := by decide +kernel
set_option maxRecDepth 100000 in
theorem lkX4_carryOut_4 : (.static Lib.Math.min.name : Cond) ∈ wsX4_carryOut := by decide +kernel
set_option maxRecDepth 100000 in
theorem lkX4_carryOut_5 : (.initialized "java/lang/Math" : Cond) ∈ wsX4_carryOut := by decide +kernel
set_option maxRecDepth 100000 in
theorem lkX4_carryOut_6 : (.code Lib.Math.min.name Lib.Math.min.code 2 (some .int) : Cond) ∈ wsX4_carryOut := by decide +kernel
set_option maxRecDepth 100000 in
theorem lkX4_carryOut_7 : (.fieldLink RX4 28 "Switchlog" "done" "LSwitchlog$ActRow;" : Cond) ∈ wsX4_carryOut := by decide +kernel
set_option maxRecDepth 100000 in
theorem lkX4_carryOut_8 : (.classLink RX4 52 "java/lang/IllegalStateException" : Cond) ∈ wsX4_carryOut := by decide +kernel
set_option maxRecDepth 100000 in
theorem lkX4_carryOut_9 : (.initialized "java/lang/IllegalStateException" : Cond) ∈ wsX4_carryOut := by decide +kernel
set_option maxRecDepth 100000 in
theorem atX4_carryOut_70 : ∀ w ∈ (vx_atS RX4 70 "java/lang/IllegalArgumentException" ["java/lang/RuntimeException", "java/lang/Exception"]).filter goodWord, w ∈ wsX4_carryOut := by decide +kernel
set_option maxRecDepth 100000 in
theorem atX4_carryOut_56 : ∀ w ∈ (vx_atS RX4 56 "java/lang/IllegalStateException" ["java/lang/RuntimeException", "java/lang/Exception"]).filter goodWord, w ∈ wsX4_carryOut := by decide +kernel
abbrev rmX4_carryOut : Room := { frames := 6, cells := 1, slots := 6, locals := 141 }
set_option maxHeartbeats 4000000 in
set_option maxRecDepth 100000 in
theorem kX4_carryOut (l : Launch) (hl0 : l.stackTraces = false) (D : va_G) (cI cZ cL : ClassId) (sz0 : Nat) (h_x a_tho h_net h_ends h_now h_don h_dac h_wri h_rac h_per h_hol h_aft : Nat) (nc : Int32) (sc : Int32) (br : Int32) (so : Int32) (lo : Int32) (ends : Nat → Int32) (cl : Int32) (ea : Int32) (on : Int32) (ds : Int32) (dac : Nat → Int32) (rs : Int32) (rac : Nat → Int32) (pg : Int32) (hol : Nat → Int32) (ac : Int32) (ae : Int32) (ao : Int32) (p0 : Int32) (N : Nat) {R : String ⊕ ((Int32) × (Int32) × (Int32) × (Int32) × (Int32) × (Nat → Int32) × (Int32) × (Nat → Int32) × (Int32) × (Int32) × (Int32))} (h : fX4_carryOut N nc sc br so lo ends cl ea on ds dac rs rac pg hol ac ae ao p0 = some R) : vx_Met l yX4_carryOut wsX4_carryOut rmX4_carryOut (PT D cI cZ cL [.ref h_x, .int p0] [(h_x, .inr (4, [.ref h_net, .ref h_now, .ref h_don, .ref h_wri, .ref h_per, .ref a_tho, .ref h_aft])), (h_net, .inr (1, [.ref h_ends, .int nc, .int sc, .int br, .int so, .int lo])), (h_ends, .inl (cI, 24, .inl ends)), (h_now, .inr (3, [.int cl, .int ea, .int on])), (h_don, .inr (0, [.ref h_dac, .int ds])), (h_dac, .inl (cI, 200, .inl dac)), (h_wri, .inr (0, [.ref h_rac, .int rs])), (h_rac, .inl (cI, 30, .inl rac)), (h_per, .inr (2, [.ref h_hol, .int pg])), (h_hol, .inl (cI, 10, .inl hol)), (h_aft, .inr (3, [.int ac, .int ae, .int ao]))] sz0) (QT D (fun u => some (.int u.1)) (va_A [(h_x, .inr (4, [.ref h_net, .ref h_now, .ref h_don, .ref h_wri, .ref h_per, .ref a_tho, .ref h_aft])), (h_net, .inr (1, [.ref h_ends, .int nc, .int sc, .int br, .int so, .int lo])), (h_ends, .inl (cI, 24, .inl ends)), (h_now, .inr (3, [.int cl, .int ea, .int on])), (h_don, .inr (0, [.ref h_dac, .int ds])), (h_dac, .inl (cI, 200, .inl dac)), (h_wri, .inr (0, [.ref h_rac, .int rs])), (h_rac, .inl (cI, 30, .inl rac)), (h_per, .inr (2, [.ref h_hol, .int pg])), (h_hol, .inl (cI, 10, .inl hol)), (h_aft, .inr (3, [.int ac, .int ae, .int ao]))] sz0) (fun u : (Int32) × (Int32) × (Int32) × (Int32) × (Int32) × (Nat → Int32) × (Int32) × (Nat → Int32) × (Int32) × (Int32) × (Int32) => [(h_x, .inr (4, [.ref h_net, .ref h_now, .ref h_don, .ref h_wri, .ref h_per, .ref a_tho, .ref h_aft])), (h_net, .inr (1, [.ref h_ends, .int nc, .int sc, .int br, .int so, .int lo])), (h_ends, .inl (cI, 24, .inl ends)), (h_now, .inr (3, [.int u.2.1, .int u.2.2.1, .int u.2.2.2.1])), (h_don, .inr (0, [.ref h_dac, .int u.2.2.2.2.1])), (h_dac, .inl (cI, 200, .inl u.2.2.2.2.2.1)), (h_wri, .inr (0, [.ref h_rac, .int u.2.2.2.2.2.2.1])), (h_rac, .inl (cI, 30, .inl u.2.2.2.2.2.2.2.1)), (h_per, .inr (2, [.ref h_hol, .int pg])), (h_hol, .inl (cI, 10, .inl hol)), (h_aft, .inr (3, [.int u.2.2.2.2.2.2.2.2.1, .int u.2.2.2.2.2.2.2.2.2.1, .int u.2.2.2.2.2.2.2.2.2.2]))]) R) (XT D (va_A [(h_x, .inr (4, [.ref h_net, .ref h_now, .ref h_don, .ref h_wri, .ref h_per, .ref a_tho, .ref h_aft])), (h_net, .inr (1, [.ref h_ends, .int nc, .int sc, .int br, .int so, .int lo])), (h_ends, .inl (cI, 24, .inl ends)), (h_now, .inr (3, [.int cl, .int ea, .int on])), (h_don, .inr (0, [.ref h_dac, .int ds])), (h_dac, .inl (cI, 200, .inl dac)), (h_wri, .inr (0, [.ref h_rac, .int rs])), (h_rac, .inl (cI, 30, .inl rac)), (h_per, .inr (2, [.ref h_hol, .int pg])), (h_hol, .inl (cI, 10, .inl hol)), (h_aft, .inr (3, [.int ac, .int ae, .int ao]))] sz0) [(h_x, .inr (4, [.ref h_net, .ref h_now, .ref h_don, .ref h_wri, .ref h_per, .ref a_tho, .ref h_aft])), (h_net, .inr (1, [.ref h_ends, .int nc, .int sc, .int br, .int so, .int lo])), (h_ends, .inl (cI, 24, .inl ends)), (h_now, .inr (3, [.int cl, .int ea, .int on])), (h_don, .inr (0, [.ref h_dac, .int ds])), (h_dac, .inl (cI, 200, .inl dac)), (h_wri, .inr (0, [.ref h_rac, .int rs])), (h_rac, .inl (cI, 30, .inl rac)), (h_per, .inr (2, [.ref h_hol, .int pg])), (h_hol, .inl (cI, 10, .inl hol)), (h_aft, .inr (3, [.int ac, .int ae, .int ao]))] R) 1 6 (va_A [(h_x, .inr (4, [.ref h_net, .ref h_now, .ref h_don, .ref h_wri, .ref h_per, .ref a_tho, .ref h_aft])), (h_net, .inr (1, [.ref h_ends, .int nc, .int sc, .int br, .int so, .int lo])), (h_ends, .inl (cI, 24, .inl ends)), (h_now, .inr (3, [.int cl, .int ea, .int on])), (h_don, .inr (0, [.ref h_dac, .int ds])), (h_dac, .inl (cI, 200, .inl dac)), (h_wri, .inr (0, [.ref h_rac, .int rs])), (h_rac, .inl (cI, 30, .inl rac)), (h_per, .inr (2, [.ref h_hol, .int pg])), (h_hol, .inl (cI, 10, .inl hol)), (h_aft, .inr (3, [.int ac, .int ae, .int ao]))] sz0) := by
  refine vx_ofW (cc := cX4_carryOut) (maxL := 4) (ret := (some .int)) (by decide) rfl ?_
  intro p e s m args below meth c s₁ B hml hno hv
  obtain ⟨rfl, hsz, hP, hKK, hD0, hKS, hKZ⟩ := hv
  have hK := hKK.1
  have hx := B.exec
  have hb := B.bytes
  have hr := B.returns
  have hts := atoms_spec (ws := wsX4_carryOut) B.pre
  have hown : s.vm.findClass RX4 = some m.cls := findClass_of_methodNamed B.named
  have hlocks := B.notSynchronized
  subst hsz
  have hD := hD0.self (sz := s.heap.size)
  generalize hAe : va_A [(h_x, .inr (4, [.ref h_net, .ref h_now, .ref h_don, .ref h_wri, .ref h_per, .ref a_tho, .ref h_aft])), (h_net, .inr (1, [.ref h_ends, .int nc, .int sc, .int br, .int so, .int lo])), (h_ends, .inl (cI, 24, .inl ends)), (h_now, .inr (3, [.int cl, .int ea, .int on])), (h_don, .inr (0, [.ref h_dac, .int ds])), (h_dac, .inl (cI, 200, .inl dac)), (h_wri, .inr (0, [.ref h_rac, .int rs])), (h_rac, .inl (cI, 30, .inl rac)), (h_per, .inr (2, [.ref h_hol, .int pg])), (h_hol, .inl (cI, 10, .inl hol)), (h_aft, .inr (3, [.int ac, .int ae, .int ao]))] s.heap.size = A at hD hKZ ⊢
  have hA : ∀ q : Nat, s.heap.size ≤ q → A q := fun q h => by rw [← hAe]; exact Or.inr h
  have hS : va_S A s.heap s.heap [] := va_S.rf
  have hl := lv_entry ([.ref h_x, .int p0]) (n := 4) (Nat.le_of_ble_eq_true rfl)
  rw [lg_entry_eq]
  generalize (lg_sl ([.ref h_x, .int p0]) ++ List.replicate (4 - (lg_sl ([.ref h_x, .int p0])).length) Slot.unset).toArray = ls at hl ⊢
  have hl : lv_has ls 4 [(0, .ref h_x), (1, .int p0)] := hl
  obtain ⟨QQ, hQQ⟩ : ∃ Z, Z = vx_MQ below (QT D (fun u => some (.int u.1)) A (fun u : (Int32) × (Int32) × (Int32) × (Int32) × (Int32) × (Nat → Int32) × (Int32) × (Nat → Int32) × (Int32) × (Int32) × (Int32) => [(h_x, .inr (4, [.ref h_net, .ref h_now, .ref h_don, .ref h_wri, .ref h_per, .ref a_tho, .ref h_aft])), (h_net, .inr (1, [.ref h_ends, .int nc, .int sc, .int br, .int so, .int lo])), (h_ends, .inl (cI, 24, .inl ends)), (h_now, .inr (3, [.int u.2.1, .int u.2.2.1, .int u.2.2.2.1])), (h_don, .inr (0, [.ref h_dac, .int u.2.2.2.2.1])), (h_dac, .inl (cI, 200, .inl u.2.2.2.2.2.1)), (h_wri, .inr (0, [.ref h_rac, .int u.2.2.2.2.2.2.1])), (h_rac, .inl (cI, 30, .inl u.2.2.2.2.2.2.2.1)), (h_per, .inr (2, [.ref h_hol, .int pg])), (h_hol, .inl (cI, 10, .inl hol)), (h_aft, .inr (3, [.int u.2.2.2.2.2.2.2.2.1, .int u.2.2.2.2.2.2.2.2.2.1, .int u.2.2.2.2.2.2.2.2.2.2]))]) R) (XT D A [(h_x, .inr (4, [.ref h_net, .ref h_now, .ref h_don, .ref h_wri, .ref h_per, .ref a_tho, .ref h_aft])), (h_net, .inr (1, [.ref h_ends, .int nc, .int sc, .int br, .int so, .int lo])), (h_ends, .inl (cI, 24, .inl ends)), (h_now, .inr (3, [.int cl, .int ea, .int on])), (h_don, .inr (0, [.ref h_dac, .int ds])), (h_dac, .inl (cI, 200, .inl dac)), (h_wri, .inr (0, [.ref h_rac, .int rs])), (h_rac, .inl (cI, 30, .inl rac)), (h_per, .inr (2, [.ref h_hol, .int pg])), (h_hol, .inl (cI, 10, .inl hol)), (h_aft, .inr (3, [.int ac, .int ae, .int ao]))] R) ([.ref h_x, .int p0] : List Value).toArray s 1 6 A := ⟨_, rfl⟩
  rw [← hQQ]
  obtain ⟨H, locs, hHe, hLe⟩ : ∃ (H : Heap) (locs : List Loc), H = s.heap ∧ locs = [] := ⟨_, _, rfl, rfl⟩
  have hP : va_P D vwCl [(h_x, .inr (4, [.ref h_net, .ref h_now, .ref h_don, .ref h_wri, .ref h_per, .ref a_tho, .ref h_aft])), (h_net, .inr (1, [.ref h_ends, .int nc, .int sc, .int br, .int so, .int lo])), (h_ends, .inl (cI, 24, .inl ends)), (h_now, .inr (3, [.int cl, .int ea, .int on])), (h_don, .inr (0, [.ref h_dac, .int ds])), (h_dac, .inl (cI, 200, .inl dac)), (h_wri, .inr (0, [.ref h_rac, .int rs])), (h_rac, .inl (cI, 30, .inl rac)), (h_per, .inr (2, [.ref h_hol, .int pg])), (h_hol, .inl (cI, 10, .inl hol)), (h_aft, .inr (3, [.int ac, .int ae, .int ao]))] H := by rw [hHe]; exact hP
  have hS : va_S A s.heap H locs := by rw [hHe, hLe]; exact hS
  have hW0 : ∀ QQ : State → Prop, W p l e (headSpec wsX4_carryOut rmX4_carryOut).room s m (([.ref h_x, .int p0] : List Value).toArray) below meth c H locs 0 0 QQ (F0 m 0 ls []) → W p l e (headSpec wsX4_carryOut rmX4_carryOut).room s m (([.ref h_x, .int p0] : List Value).toArray) below meth c s.heap [] 0 0 QQ (F0 m 0 ls []) := by rw [hHe, hLe]; exact fun _ h => h
  refine hW0 _ ?_
  clear hW0
  unfold fX4_carryOut at h
  refine lv_iload_n hx hb dX4_carryOut_0 rfl (lv_at hl 1 rfl) ?_
  refine lv_iconst (v := 1) hx hb dX4_carryOut_1 (by decide) ?_
  refine lv_icmp_lt (tgt := 11) hx hb dX4_carryOut_2 (by decide) (fun c1 => ?_) (fun c1 => ?_)
  · have h := it_t h c1
    cases h
    obtain ⟨sa9, hsa9⟩ := hKS.1 (144, "acts is not 1 to 30") (List.mem_of_getElem? (i := 7) rfl)
    rw [hQQ]
    exact vx_throwS hx hb hl0 (A := A) (own := RX4) (cls := "java/lang/IllegalArgumentException") (text := "acts is not 1 to 30") (names := ["java/lang/RuntimeException", "java/lang/Exception"]) (ik := 66) (is := 144) (ic := 70) hown (by decide +kernel) (by decide +kernel) (hts _ lkX4_carryOut_0) (hts _ lkX4_carryOut_1) hsa9 (hKS.hat (fun w h => hts w (atX4_carryOut_70 w h)) nb_RX4_70) (go_RX4_70 66) hKZ.1 hKZ.2 hS (hl.1.trans hml.symm) dX4_carryOut_11 dX4_carryOut_14 dX4_carryOut_15 dX4_carryOut_17 dX4_carryOut_20 (fun x hx => (hno x hx).elim) (Nat.le_of_ble_eq_true rfl) (Nat.le_of_ble_eq_true rfl) (Nat.le_of_ble_eq_true rfl) (Nat.le_of_ble_eq_true rfl) hlocks (fun t ht hz hq => zz_XT hP hD hS hz hq) hS.2.2 (Nat.le_of_ble_eq_true rfl) (Nat.le_of_ble_eq_true rfl)
  · have h := it_f h c1
    refine lv_iload_n hx hb dX4_carryOut_5 rfl (lv_at hl 1 rfl) ?_
    refine lv_bipush (v := 30) hx hb dX4_carryOut_6 (by decide) ?_
    refine lv_icmp_le (tgt := 21) hx hb dX4_carryOut_8 (by decide) (fun c2 => ?_) (fun c2 => ?_)
    · have h := it_t h c2
      refine lv_iload_n hx hb dX4_carryOut_21 rfl (lv_at hl 1 rfl) ?_
      refine lv_aload_n hx hb dX4_carryOut_22 rfl (lv_at hl 0 rfl) ?_
      refine va_get (D := D) (ci := 4) (v := .ref h_wri) (C := RX4) (T := TX4) (N := 7) hx hb hts inX4_carryOut_X4 hown hK hP 0 rfl rfl 3 (by decide) (hts _ lkX4_carryOut_2) (fun _ h9 => h9) rfl dX4_carryOut_23 ?_
      obtain ⟨v3, hq4, h⟩ := bd1_e h
      refine zz_cV (As := []) ⟨hx, hb, hml, hown, hts⟩ (kX0_size l D cI cZ cL h_wri h_rac rs N hq4) (cwV 0 hts gX4_carryOut_X0_size rfl rfl rfl (by decide +kernel) ⟨Nat.le_of_ble_eq_true rfl, Nat.le_of_ble_eq_true rfl⟩) (hP.sub (ws' := [(h_wri, .inr (0, [.ref h_rac, .int rs]))]) [6] rfl) hKK (va_recv hK hP (ci := 0) (q0 := 6) rfl rfl) rfl hl.1 rfl (Nat.le_of_ble_eq_true rfl) dX4_carryOut_26 ⟨Nat.le_of_ble_eq_true rfl, Nat.le_of_ble_eq_true rfl⟩ ?_
      refine va_mmin hx hb (by rw [hml]; exact hl.1.symm) hown (hts _ lkX4_carryOut_3) (hts _ lkX4_carryOut_4) (hts _ lkX4_carryOut_5) (hts _ lkX4_carryOut_6) (Nat.le_of_ble_eq_true rfl) (Nat.le_of_ble_eq_true rfl) (Nat.le_of_ble_eq_true rfl) (Nat.le_of_ble_eq_true rfl) dX4_carryOut_29 ?_
      refine lv_istore_n (lv' := [(2, .int (if v3 < p0 then v3 else p0)), (0, .ref h_x), (1, .int p0)]) hx hb dX4_carryOut_32 rfl hl (by decide) rfl (fun ls hl => ?_)
      refine lv_aload_n hx hb dX4_carryOut_33 rfl (lv_at hl 1 rfl) ?_
      refine va_get (D := D) (ci := 4) (v := .ref h_don) (C := RX4) (T := TX4) (N := 7) hx hb hts inX4_carryOut_X4 hown hK hP 0 rfl rfl 2 (by decide) (hts _ lkX4_carryOut_7) (fun _ h9 => h9) rfl dX4_carryOut_34 ?_
      obtain ⟨v5, hq6, h⟩ := bd1_e h
      refine zz_cV (As := []) ⟨hx, hb, hml, hown, hts⟩ (kX0_size l D cI cZ cL h_don h_dac ds N hq6) (cwV 0 hts gX4_carryOut_X0_size rfl rfl rfl (by decide +kernel) ⟨Nat.le_of_ble_eq_true rfl, Nat.le_of_ble_eq_true rfl⟩) (hP.sub (ws' := [(h_don, .inr (0, [.ref h_dac, .int ds]))]) [4] rfl) hKK (va_recv hK hP (ci := 0) (q0 := 4) rfl rfl) rfl hl.1 rfl (Nat.le_of_ble_eq_true rfl) dX4_carryOut_37 ⟨Nat.le_of_ble_eq_true rfl, Nat.le_of_ble_eq_true rfl⟩ ?_
      refine lv_iload_n hx hb dX4_carryOut_40 rfl (lv_at hl 0 rfl) ?_
      refine lv_iadd hx hb dX4_carryOut_41 ?_
      refine lv_sipush (v := 200) hx hb dX4_carryOut_42 (by decide) ?_
      refine lv_icmp_le (tgt := 58) hx hb dX4_carryOut_45 (by decide) (fun c7 => ?_) (fun c7 => ?_)
      · have h := it_t h c7
        refine lv_iconst (v := 0) hx hb dX4_carryOut_58 (by decide) ?_
        refine lv_istore_n (lv' := [(3, .int 0), (2, .int (if v3 < p0 then v3 else p0)), (0, .ref h_x), (1, .int p0)]) hx hb dX4_carryOut_59 rfl hl (by decide) rfl (fun ls hl => ?_)
        refine it11_e (fun (x8 : Int32) (w9 : Int32) (w10 : Int32) (w11 : Int32) (w12 : Int32) (w13 : Nat → Int32) (w14 : Int32) (w15 : Nat → Int32) (w16 : Int32) (w17 : Int32) (w18 : Int32) => ∀ (H : Heap) (locs : List Loc) (ls : Array Slot), va_P D vwCl [(h_x, .inr (4, [.ref h_net, .ref h_now, .ref h_don, .ref h_wri, .ref h_per, .ref a_tho, .ref h_aft])), (h_net, .inr (1, [.ref h_ends, .int nc, .int sc, .int br, .int so, .int lo])), (h_ends, .inl (cI, 24, .inl ends)), (h_now, .inr (3, [.int w9, .int w10, .int w11])), (h_don, .inr (0, [.ref h_dac, .int w12])), (h_dac, .inl (cI, 200, .inl w13)), (h_wri, .inr (0, [.ref h_rac, .int w14])), (h_rac, .inl (cI, 30, .inl w15)), (h_per, .inr (2, [.ref h_hol, .int pg])), (h_hol, .inl (cI, 10, .inl hol)), (h_aft, .inr (3, [.int w16, .int w17, .int w18]))] H → va_D A [(h_x, .inr (4, [.ref h_net, .ref h_now, .ref h_don, .ref h_wri, .ref h_per, .ref a_tho, .ref h_aft])), (h_net, .inr (1, [.ref h_ends, .int nc, .int sc, .int br, .int so, .int lo])), (h_ends, .inl (cI, 24, .inl ends)), (h_now, .inr (3, [.int w9, .int w10, .int w11])), (h_don, .inr (0, [.ref h_dac, .int w12])), (h_dac, .inl (cI, 200, .inl w13)), (h_wri, .inr (0, [.ref h_rac, .int w14])), (h_rac, .inl (cI, 30, .inl w15)), (h_per, .inr (2, [.ref h_hol, .int pg])), (h_hol, .inl (cI, 10, .inl hol)), (h_aft, .inr (3, [.int w16, .int w17, .int w18]))] → va_S A s.heap H locs → lv_has ls 4 [(3, .int x8), (2, .int (if v3 < p0 then v3 else p0)), (0, .ref h_x), (1, .int p0)] → W p l e (headSpec wsX4_carryOut rmX4_carryOut).room s m (([.ref h_x, .int p0] : List Value).toArray) below meth c H locs 0 0 QQ (F0 m 60 ls [])) (fun g60_19 hg60_20 x8 w9 w10 w11 w12 w13 w14 w15 w16 w17 w18 h H locs ls hP hD hS hl => ?_) N 0 cl ea on ds dac rs rac ac ae ao h H locs ls hP hD hS (lv_sub hl [0, 1, 2, 3] rfl)
        refine lv_iload_n hx hb dX4_carryOut_60 rfl (lv_at hl 0 rfl) ?_
        refine lv_iload_n hx hb dX4_carryOut_61 rfl (lv_at hl 1 rfl) ?_
        refine lv_icmp_ge (tgt := 86) hx hb dX4_carryOut_62 (by decide) (fun c21 => ?_) (fun c21 => ?_)
        · have h := it_t h c21
          refine lv_aload_n hx hb dX4_carryOut_86 rfl (lv_at hl 2 rfl) ?_
          refine va_get (D := D) (ci := 4) (v := .ref h_wri) (C := RX4) (T := TX4) (N := 7) hx hb hts inX4_carryOut_X4 hown hK hP 0 rfl rfl 3 (by decide) (hts _ lkX4_carryOut_2) (fun _ h9 => h9) rfl dX4_carryOut_87 ?_
          refine lv_iload_n hx hb dX4_carryOut_90 rfl (lv_at hl 0 rfl) ?_
          obtain ⟨w23, w24, hq22, h⟩ := bd2_e h
          refine zz_mV (As := [.int x8]) (wr := [(h_x, .inr (4, [.ref h_net, .ref h_now, .ref h_don, .ref h_wri, .ref h_per, .ref a_tho, .ref h_aft])), (h_net, .inr (1, [.ref h_ends, .int nc, .int sc, .int br, .int so, .int lo])), (h_ends, .inl (cI, 24, .inl ends)), (h_now, .inr (3, [.int w9, .int w10, .int w11])), (h_don, .inr (0, [.ref h_dac, .int w12])), (h_dac, .inl (cI, 200, .inl w13)), (h_per, .inr (2, [.ref h_hol, .int pg])), (h_hol, .inl (cI, 10, .inl hol)), (h_aft, .inr (3, [.int w16, .int w17, .int w18]))]) (w1 := [(h_wri, .inr (0, [.ref h_rac, .int w24])), (h_rac, .inl (cI, 30, .inl w23))]) (wt' := [(h_x, .inr (4, [.ref h_net, .ref h_now, .ref h_don, .ref h_wri, .ref h_per, .ref a_tho, .ref h_aft])), (h_net, .inr (1, [.ref h_ends, .int nc, .int sc, .int br, .int so, .int lo])), (h_ends, .inl (cI, 24, .inl ends)), (h_now, .inr (3, [.int w9, .int w10, .int w11])), (h_don, .inr (0, [.ref h_dac, .int w12])), (h_dac, .inl (cI, 200, .inl w13)), (h_wri, .inr (0, [.ref h_rac, .int w24])), (h_rac, .inl (cI, 30, .inl w23)), (h_per, .inr (2, [.ref h_hol, .int pg])), (h_hol, .inl (cI, 10, .inl hol)), (h_aft, .inr (3, [.int w16, .int w17, .int w18]))]) (wc := [(h_wri, .inr (0, [.ref h_rac, .int w14])), (h_rac, .inl (cI, 30, .inl w15))]) (rv := none) ⟨hx, hb, hml, hown, hts⟩ (kX0_dropFirst l D cI cZ cL H.size h_wri h_rac w14 30 w15 x8 N hq22) (cwV 1 hts gX4_carryOut_X0_dropFirst rfl rfl rfl (by decide +kernel) ⟨Nat.le_of_ble_eq_true rfl, Nat.le_of_ble_eq_true rfl⟩) hP hD hS hA hKK [6, 7] [0, 1, 2, 3, 4, 5, 8, 9, 10] [0, 1, 2, 3, 4, 5, 9, 10, 6, 7, 8] rfl rfl (by decide) (by decide) rfl (by decide) (by decide) (va_recv hK hP (ci := 0) (q0 := 6) rfl rfl) rfl hl.1 rfl (Nat.le_of_ble_eq_true rfl) dX4_carryOut_91 ⟨Nat.le_of_ble_eq_true rfl, Nat.le_of_ble_eq_true rfl⟩ (fun H locs hP hD hS hz9 => ?_)
          show W p l e _ s m _ below meth c H locs _ _ QQ (F0 m 94 ls [])
          refine lv_iload_n hx hb dX4_carryOut_94 rfl (lv_at hl 0 rfl) ?_
          cases h
          rw [hQQ]
          refine vx_ret ?_
          refine W.widen (k := 1) (n := 6) (Nat.le_of_ble_eq_true rfl) (Nat.le_of_ble_eq_true rfl) ?_
          exact W.iret hx hb hr (fun t ht hW => ⟨_, rfl, rfl, by rw [ht]; exact hP, hD, hS.F ht⟩) hS.2.2 dX4_carryOut_95
        · have h := it_f h c21
          refine lv_aload_n hx hb dX4_carryOut_65 rfl (lv_at hl 2 rfl) ?_
          refine lv_aload_n hx hb dX4_carryOut_66 rfl (lv_at hl 2 rfl) ?_
          refine va_get (D := D) (ci := 4) (v := .ref h_wri) (C := RX4) (T := TX4) (N := 7) hx hb hts inX4_carryOut_X4 hown hK hP 0 rfl rfl 3 (by decide) (hts _ lkX4_carryOut_2) (fun _ h9 => h9) rfl dX4_carryOut_67 ?_
          refine lv_iload_n hx hb dX4_carryOut_70 rfl (lv_at hl 0 rfl) ?_
          obtain ⟨v25, hq26, h⟩ := bd1_e h
          refine zz_cV (As := [.int x8]) ⟨hx, hb, hml, hown, hts⟩ (kX0_get l D cI cZ cL h_wri h_rac w14 30 w15 x8 N hq26) (cwV 1 hts gX4_carryOut_X0_get rfl rfl rfl (by decide +kernel) ⟨Nat.le_of_ble_eq_true rfl, Nat.le_of_ble_eq_true rfl⟩) (hP.sub (ws' := [(h_wri, .inr (0, [.ref h_rac, .int w14])), (h_rac, .inl (cI, 30, .inl w15))]) [6, 7] rfl) hKK (va_recv hK hP (ci := 0) (q0 := 6) rfl rfl) rfl hl.1 rfl (Nat.le_of_ble_eq_true rfl) dX4_carryOut_71 ⟨Nat.le_of_ble_eq_true rfl, Nat.le_of_ble_eq_true rfl⟩ ?_
          obtain ⟨v28, w29, w30, w31, w32, w33, w34, w35, w36, hq27, h⟩ := bd9_e h
          refine zz_mV (As := [.int v25]) (wr := [(h_wri, .inr (0, [.ref h_rac, .int w14])), (h_rac, .inl (cI, 30, .inl w15))]) (w1 := [(h_x, .inr (4, [.ref h_net, .ref h_now, .ref h_don, .ref h_wri, .ref h_per, .ref a_tho, .ref h_aft])), (h_net, .inr (1, [.ref h_ends, .int nc, .int sc, .int br, .int so, .int lo])), (h_ends, .inl (cI, 24, .inl ends)), (h_now, .inr (3, [.int w29, .int w30, .int w31])), (h_don, .inr (0, [.ref h_dac, .int w32])), (h_dac, .inl (cI, 200, .inl w33)), (h_per, .inr (2, [.ref h_hol, .int pg])), (h_hol, .inl (cI, 10, .inl hol)), (h_aft, .inr (3, [.int w34, .int w35, .int w36]))]) (wt' := [(h_x, .inr (4, [.ref h_net, .ref h_now, .ref h_don, .ref h_wri, .ref h_per, .ref a_tho, .ref h_aft])), (h_net, .inr (1, [.ref h_ends, .int nc, .int sc, .int br, .int so, .int lo])), (h_ends, .inl (cI, 24, .inl ends)), (h_now, .inr (3, [.int w29, .int w30, .int w31])), (h_don, .inr (0, [.ref h_dac, .int w32])), (h_dac, .inl (cI, 200, .inl w33)), (h_wri, .inr (0, [.ref h_rac, .int w14])), (h_rac, .inl (cI, 30, .inl w15)), (h_per, .inr (2, [.ref h_hol, .int pg])), (h_hol, .inl (cI, 10, .inl hol)), (h_aft, .inr (3, [.int w34, .int w35, .int w36]))]) (wc := [(h_x, .inr (4, [.ref h_net, .ref h_now, .ref h_don, .ref h_wri, .ref h_per, .ref a_tho, .ref h_aft])), (h_net, .inr (1, [.ref h_ends, .int nc, .int sc, .int br, .int so, .int lo])), (h_ends, .inl (cI, 24, .inl ends)), (h_now, .inr (3, [.int w9, .int w10, .int w11])), (h_don, .inr (0, [.ref h_dac, .int w12])), (h_dac, .inl (cI, 200, .inl w13)), (h_per, .inr (2, [.ref h_hol, .int pg])), (h_hol, .inl (cI, 10, .inl hol)), (h_aft, .inr (3, [.int w16, .int w17, .int w18]))]) (rv := (some (.int v28))) ⟨hx, hb, hml, hown, hts⟩ (kX4_doAndLog l D cI cZ cL H.size h_x h_wri a_tho h_net h_ends h_now h_don h_dac h_per h_hol h_aft nc sc br so lo ends w9 w10 w11 w12 w13 pg hol w16 w17 w18 v25 N hq27) (cwV 1 hts gX4_carryOut_X4_doAndLog rfl rfl rfl (by decide +kernel) ⟨Nat.le_of_ble_eq_true rfl, Nat.le_of_ble_eq_true rfl⟩) hP hD hS hA hKK [0, 1, 2, 3, 4, 5, 8, 9, 10] [6, 7] [2, 3, 4, 5, 6, 7, 0, 1, 8, 9, 10] rfl rfl (by decide) (by decide) rfl (by decide) (by decide) (va_recv hK hP (ci := 4) (q0 := 0) rfl rfl) rfl hl.1 rfl (Nat.le_of_ble_eq_true rfl) dX4_carryOut_74 ⟨Nat.le_of_ble_eq_true rfl, Nat.le_of_ble_eq_true rfl⟩ (fun H locs hP hD hS hz9 => ?_)
          show W p l e _ s m _ below meth c H locs _ _ QQ (F0 m 77 ls (.int v28 :: []))
          refine lv_if_ne (tgt := 86) hx hb dX4_carryOut_77 (by decide) (fun c37 => ?_) (fun c37 => ?_)
          · have h := it_f h c37
            refine lv_aload_n hx hb dX4_carryOut_86 rfl (lv_at hl 2 rfl) ?_
            refine va_get (D := D) (ci := 4) (v := .ref h_wri) (C := RX4) (T := TX4) (N := 7) hx hb hts inX4_carryOut_X4 hown hK hP 0 rfl rfl 3 (by decide) (hts _ lkX4_carryOut_2) (fun _ h9 => h9) rfl dX4_carryOut_87 ?_
            refine lv_iload_n hx hb dX4_carryOut_90 rfl (lv_at hl 0 rfl) ?_
            obtain ⟨w39, w40, hq38, h⟩ := bd2_e h
            refine zz_mV (As := [.int x8]) (wr := [(h_x, .inr (4, [.ref h_net, .ref h_now, .ref h_don, .ref h_wri, .ref h_per, .ref a_tho, .ref h_aft])), (h_net, .inr (1, [.ref h_ends, .int nc, .int sc, .int br, .int so, .int lo])), (h_ends, .inl (cI, 24, .inl ends)), (h_now, .inr (3, [.int w29, .int w30, .int w31])), (h_don, .inr (0, [.ref h_dac, .int w32])), (h_dac, .inl (cI, 200, .inl w33)), (h_per, .inr (2, [.ref h_hol, .int pg])), (h_hol, .inl (cI, 10, .inl hol)), (h_aft, .inr (3, [.int w34, .int w35, .int w36]))]) (w1 := [(h_wri, .inr (0, [.ref h_rac, .int w40])), (h_rac, .inl (cI, 30, .inl w39))]) (wt' := [(h_x, .inr (4, [.ref h_net, .ref h_now, .ref h_don, .ref h_wri, .ref h_per, .ref a_tho, .ref h_aft])), (h_net, .inr (1, [.ref h_ends, .int nc, .int sc, .int br, .int so, .int lo])), (h_ends, .inl (cI, 24, .inl ends)), (h_now, .inr (3, [.int w29, .int w30, .int w31])), (h_don, .inr (0, [.ref h_dac, .int w32])), (h_dac, .inl (cI, 200, .inl w33)), (h_wri, .inr (0, [.ref h_rac, .int w40])), (h_rac, .inl (cI, 30, .inl w39)), (h_per, .inr (2, [.ref h_hol, .int pg])), (h_hol, .inl (cI, 10, .inl hol)), (h_aft, .inr (3, [.int w34, .int w35, .int w36]))]) (wc := [(h_wri, .inr (0, [.ref h_rac, .int w14])), (h_rac, .inl (cI, 30, .inl w15))]) (rv := none) ⟨hx, hb, hml, hown, hts⟩ (kX0_dropFirst l D cI cZ cL H.size h_wri h_rac w14 30 w15 x8 N hq38) (cwV 1 hts gX4_carryOut_X0_dropFirst rfl rfl rfl (by decide +kernel) ⟨Nat.le_of_ble_eq_true rfl, Nat.le_of_ble_eq_true rfl⟩) hP hD hS hA hKK [6, 7] [0, 1, 2, 3, 4, 5, 8, 9, 10] [0, 1, 2, 3, 4, 5, 9, 10, 6, 7, 8] rfl rfl (by decide) (by decide) rfl (by decide) (by decide) (va_recv hK hP (ci := 0) (q0 := 6) rfl rfl) rfl hl.1 rfl (Nat.le_of_ble_eq_true rfl) dX4_carryOut_91 ⟨Nat.le_of_ble_eq_true rfl, Nat.le_of_ble_eq_true rfl⟩ (fun H locs hP hD hS hz9 => ?_)
            show W p l e _ s m _ below meth c H locs _ _ QQ (F0 m 94 ls [])
            refine lv_iload_n hx hb dX4_carryOut_94 rfl (lv_at hl 0 rfl) ?_
            cases h
            rw [hQQ]
            refine vx_ret ?_
            refine W.widen (k := 1) (n := 6) (Nat.le_of_ble_eq_true rfl) (Nat.le_of_ble_eq_true rfl) ?_
            exact W.iret hx hb hr (fun t ht hW => ⟨_, rfl, rfl, by rw [ht]; exact hP, hD, hS.F ht⟩) hS.2.2 dX4_carryOut_95
          · have h := it_t h c37
            refine lv_iinc (v := x8 + 1) (lv' := [(3, .int (x8 + 1)), (2, .int (if v3 < p0 then v3 else p0)), (0, .ref h_x), (1, .int p0)]) hx hb dX4_carryOut_80 hl (k := 0) rfl rfl (by decide) rfl (fun ls hl => ?_)
            refine lv_goto (tgt := 60) hx hb dX4_carryOut_83 (by decide) ?_
            exact hg60_20 (x8 + 1) w29 w30 w31 w32 w33 w14 w15 w34 w35 w36 h H locs ls hP hD hS (lv_sub hl [0, 1, 2, 3] rfl)
      · have h := it_f h c7
        cases h
        obtain ⟨sa9, hsa9⟩ := hKS.1 (151, "the log would have more than 200 acts") (List.mem_of_getElem? (i := 8) rfl)
        rw [hQQ]
        exact vx_throwS hx hb hl0 (A := A) (own := RX4) (cls := "java/lang/IllegalStateException") (text := "the log would have more than 200 acts") (names := ["java/lang/RuntimeException", "java/lang/Exception"]) (ik := 52) (is := 151) (ic := 56) hown (by decide +kernel) (by decide +kernel) (hts _ lkX4_carryOut_8) (hts _ lkX4_carryOut_9) hsa9 (hKS.hat (fun w h => hts w (atX4_carryOut_56 w h)) nb_RX4_56) (go_RX4_56 52) hKZ.1 hKZ.2 hS (hl.1.trans hml.symm) dX4_carryOut_48 dX4_carryOut_51 dX4_carryOut_52 dX4_carryOut_54 dX4_carryOut_57 (fun x hx => (hno x hx).elim) (Nat.le_of_ble_eq_true rfl) (Nat.le_of_ble_eq_true rfl) (Nat.le_of_ble_eq_true rfl) (Nat.le_of_ble_eq_true rfl) hlocks (fun t ht hz hq => zz_XT hP hD hS hz hq) hS.2.2 (Nat.le_of_ble_eq_true rfl) (Nat.le_of_ble_eq_true rfl)
    · have h := it_f h c2
      cases h
      obtain ⟨sa9, hsa9⟩ := hKS.1 (144, "acts is not 1 to 30") (List.mem_of_getElem? (i := 7) rfl)
      rw [hQQ]
      exact vx_throwS hx hb hl0 (A := A) (own := RX4) (cls := "java/lang/IllegalArgumentException") (text := "acts is not 1 to 30") (names := ["java/lang/RuntimeException", "java/lang/Exception"]) (ik := 66) (is := 144) (ic := 70) hown (by decide +kernel) (by decide +kernel) (hts _ lkX4_carryOut_0) (hts _ lkX4_carryOut_1) hsa9 (hKS.hat (fun w h => hts w (atX4_carryOut_70 w h)) nb_RX4_70) (go_RX4_70 66) hKZ.1 hKZ.2 hS (hl.1.trans hml.symm) dX4_carryOut_11 dX4_carryOut_14 dX4_carryOut_15 dX4_carryOut_17 dX4_carryOut_20 (fun x hx => (hno x hx).elim) (Nat.le_of_ble_eq_true rfl) (Nat.le_of_ble_eq_true rfl) (Nat.le_of_ble_eq_true rfl) (Nat.le_of_ble_eq_true rfl) hlocks (fun t ht hz hq => zz_XT hP hD hS hz hq) hS.2.2 (Nat.le_of_ble_eq_true rfl) (Nat.le_of_ble_eq_true rfl)

def fX4_permit (N : Nat) (nc : Int32) (sc : Int32) (br : Int32) (so : Int32) (lo : Int32) (ends : Nat → Int32) (cl : Int32) (ea : Int32) (on : Int32) (pg : Int32) (hol : Nat → Int32) (p0 : Int32) : Option (String ⊕ ((Int32) × (Nat → Int32) × (Int32))) :=
  (if p0 = 0 then some (.inl "java/lang/IllegalArgumentException") else bd1 (fX1_allNodes N nc sc br so lo) (fun v2 => (if (p0 &&& (v2 ^^^ (-1))) = 0 then bd1 (fX4_canBeHeld N nc sc br so lo ends cl ea on pg hol p0) (fun v5 => (if v5 = 0 then some (.inl "java/lang/IllegalStateException") else bd1 (fX2_given N pg) (fun v8 => (if v8 < 10 then bd3 (fX2_give N pg hol p0) (fun v12 w13 w14 => some (.inr (v12, w13, w14))) else some (.inl "java/lang/IllegalStateException"))))) else some (.inl "java/lang/IllegalArgumentException"))))
set_option maxRecDepth 100000 in
theorem inX4_permit_X4 : ∀ w ∈ wsX40, w ∈ wsX4_permit := by decide +kernel
set_option maxRecDepth 100000 in
theorem lkX4_permit_0 : (.classLink RX4 66 "java/lang/IllegalArgumentException" : Cond) ∈ wsX4_permit := by decide +kernel
set_option maxRecDepth 100000 in
theorem lkX4_permit_1 : (.initialized "java/lang/IllegalArgumentException" : Cond) ∈ wsX4_permit := by decide +kernel
set_option maxRecDepth 100000 in
theorem lkX4_permit_2 : (.fieldLink RX4 10 "Switchlog" "net" "LSwitchlog$Net;" : Cond) ∈ wsX4_permit := by decide +kernel
set_option maxRecDepth 100000 in
theorem lkX4_permit_3 : (.fieldLink RX4 38 "Switchlog" "permits" "LSwitchlog$Permits;" : Cond) ∈ wsX4_permit := by decide +kernel
set_option maxRecDepth 100000 in
theorem lkX4_permit_4 : (.classLink RX4 52 "java/lang/IllegalStateException" : Cond) ∈ wsX4_permit := by decide +kernel
set_option maxRecDepth 100000 in
theorem lkX4_permit_5 : (.initialized "java/lang/IllegalStateException" : Cond) ∈ wsX4_permit := by decide +kernel
set_option maxRecDepth 100000 in
theorem atX4_permit_70 : ∀ w ∈ (vx_atS RX4 70 "java/lang/IllegalArgumentException" ["java/lang/RuntimeException", "java/lang/Exception"]).filter goodWord, w ∈ wsX4_permit := by decide +kernel
set_option maxRecDepth 100000 in
theorem atX4_permit_56 : ∀ w ∈ (vx_atS RX4 56 "java/lang/IllegalStateException" ["java/lang/RuntimeException", "java/lang/Exception"]).filter goodWord, w ∈ wsX4_permit := by decide +kernel
abbrev rmX4_permit : Room := { frames := 6, cells := 1, slots := 6, locals := 91 }
set_option maxHeartbeats 4000000 in
set_option maxRecDepth 100000 in
theorem kX4_permit (l : Launch) (hl0 : l.stackTraces = false) (D : va_G) (cI cZ cL : ClassId) (sz0 : Nat) (h_x a_don a_wri a_tho a_aft h_net h_ends h_now h_per h_hol : Nat) (nc : Int32) (sc : Int32) (br : Int32) (so : Int32) (lo : Int32) (ends : Nat → Int32) (cl : Int32) (ea : Int32) (on : Int32) (pg : Int32) (hol : Nat → Int32) (p0 : Int32) (N : Nat) {R : String ⊕ ((Int32) × (Nat → Int32) × (Int32))} (h : fX4_permit N nc sc br so lo ends cl ea on pg hol p0 = some R) : vx_Met l yX4_permit wsX4_permit rmX4_permit (PT D cI cZ cL [.ref h_x, .int p0] [(h_x, .inr (4, [.ref h_net, .ref h_now, .ref a_don, .ref a_wri, .ref h_per, .ref a_tho, .ref a_aft])), (h_net, .inr (1, [.ref h_ends, .int nc, .int sc, .int br, .int so, .int lo])), (h_ends, .inl (cI, 24, .inl ends)), (h_now, .inr (3, [.int cl, .int ea, .int on])), (h_per, .inr (2, [.ref h_hol, .int pg])), (h_hol, .inl (cI, 10, .inl hol))] sz0) (QT D (fun u => some (.int u.1)) (va_A [(h_x, .inr (4, [.ref h_net, .ref h_now, .ref a_don, .ref a_wri, .ref h_per, .ref a_tho, .ref a_aft])), (h_net, .inr (1, [.ref h_ends, .int nc, .int sc, .int br, .int so, .int lo])), (h_ends, .inl (cI, 24, .inl ends)), (h_now, .inr (3, [.int cl, .int ea, .int on])), (h_per, .inr (2, [.ref h_hol, .int pg])), (h_hol, .inl (cI, 10, .inl hol))] sz0) (fun u : (Int32) × (Nat → Int32) × (Int32) => [(h_x, .inr (4, [.ref h_net, .ref h_now, .ref a_don, .ref a_wri, .ref h_per, .ref a_tho, .ref a_aft])), (h_net, .inr (1, [.ref h_ends, .int nc, .int sc, .int br, .int so, .int lo])), (h_ends, .inl (cI, 24, .inl ends)), (h_now, .inr (3, [.int cl, .int ea, .int on])), (h_per, .inr (2, [.ref h_hol, .int u.2.2])), (h_hol, .inl (cI, 10, .inl u.2.1))]) R) (XT D (va_A [(h_x, .inr (4, [.ref h_net, .ref h_now, .ref a_don, .ref a_wri, .ref h_per, .ref a_tho, .ref a_aft])), (h_net, .inr (1, [.ref h_ends, .int nc, .int sc, .int br, .int so, .int lo])), (h_ends, .inl (cI, 24, .inl ends)), (h_now, .inr (3, [.int cl, .int ea, .int on])), (h_per, .inr (2, [.ref h_hol, .int pg])), (h_hol, .inl (cI, 10, .inl hol))] sz0) [(h_x, .inr (4, [.ref h_net, .ref h_now, .ref a_don, .ref a_wri, .ref h_per, .ref a_tho, .ref a_aft])), (h_net, .inr (1, [.ref h_ends, .int nc, .int sc, .int br, .int so, .int lo])), (h_ends, .inl (cI, 24, .inl ends)), (h_now, .inr (3, [.int cl, .int ea, .int on])), (h_per, .inr (2, [.ref h_hol, .int pg])), (h_hol, .inl (cI, 10, .inl hol))] R) 1 6 (va_A [(h_x, .inr (4, [.ref h_net, .ref h_now, .ref a_don, .ref a_wri, .ref h_per, .ref a_tho, .ref a_aft])), (h_net, .inr (1, [.ref h_ends, .int nc, .int sc, .int br, .int so, .int lo])), (h_ends, .inl (cI, 24, .inl ends)), (h_now, .inr (3, [.int cl, .int ea, .int on])), (h_per, .inr (2, [.ref h_hol, .int pg])), (h_hol, .inl (cI, 10, .inl hol))] sz0) := by
  refine vx_ofW (cc := cX4_permit) (maxL := 2) (ret := (some .int)) (by decide) rfl ?_
  intro p e s m args below meth c s₁ B hml hno hv
  obtain ⟨rfl, hsz, hP, hKK, hD0, hKS, hKZ⟩ := hv
  have hK := hKK.1
  have hx := B.exec
  have hb := B.bytes
  have hr := B.returns
  have hts := atoms_spec (ws := wsX4_permit) B.pre
  have hown : s.vm.findClass RX4 = some m.cls := findClass_of_methodNamed B.named
  have hlocks := B.notSynchronized
  subst hsz
  have hD := hD0.self (sz := s.heap.size)
  generalize hAe : va_A [(h_x, .inr (4, [.ref h_net, .ref h_now, .ref a_don, .ref a_wri, .ref h_per, .ref a_tho, .ref a_aft])), (h_net, .inr (1, [.ref h_ends, .int nc, .int sc, .int br, .int so, .int lo])), (h_ends, .inl (cI, 24, .inl ends)), (h_now, .inr (3, [.int cl, .int ea, .int on])), (h_per, .inr (2, [.ref h_hol, .int pg])), (h_hol, .inl (cI, 10, .inl hol))] s.heap.size = A at hD hKZ ⊢
  have hA : ∀ q : Nat, s.heap.size ≤ q → A q := fun q h => by rw [← hAe]; exact Or.inr h
  have hS : va_S A s.heap s.heap [] := va_S.rf
  have hl := lv_entry ([.ref h_x, .int p0]) (n := 2) (Nat.le_of_ble_eq_true rfl)
  rw [lg_entry_eq]
  generalize (lg_sl ([.ref h_x, .int p0]) ++ List.replicate (2 - (lg_sl ([.ref h_x, .int p0])).length) Slot.unset).toArray = ls at hl ⊢
  have hl : lv_has ls 2 [(0, .ref h_x), (1, .int p0)] := hl
  obtain ⟨QQ, hQQ⟩ : ∃ Z, Z = vx_MQ below (QT D (fun u => some (.int u.1)) A (fun u : (Int32) × (Nat → Int32) × (Int32) => [(h_x, .inr (4, [.ref h_net, .ref h_now, .ref a_don, .ref a_wri, .ref h_per, .ref a_tho, .ref a_aft])), (h_net, .inr (1, [.ref h_ends, .int nc, .int sc, .int br, .int so, .int lo])), (h_ends, .inl (cI, 24, .inl ends)), (h_now, .inr (3, [.int cl, .int ea, .int on])), (h_per, .inr (2, [.ref h_hol, .int u.2.2])), (h_hol, .inl (cI, 10, .inl u.2.1))]) R) (XT D A [(h_x, .inr (4, [.ref h_net, .ref h_now, .ref a_don, .ref a_wri, .ref h_per, .ref a_tho, .ref a_aft])), (h_net, .inr (1, [.ref h_ends, .int nc, .int sc, .int br, .int so, .int lo])), (h_ends, .inl (cI, 24, .inl ends)), (h_now, .inr (3, [.int cl, .int ea, .int on])), (h_per, .inr (2, [.ref h_hol, .int pg])), (h_hol, .inl (cI, 10, .inl hol))] R) ([.ref h_x, .int p0] : List Value).toArray s 1 6 A := ⟨_, rfl⟩
  rw [← hQQ]
  obtain ⟨H, locs, hHe, hLe⟩ : ∃ (H : Heap) (locs : List Loc), H = s.heap ∧ locs = [] := ⟨_, _, rfl, rfl⟩
  have hP : va_P D vwCl [(h_x, .inr (4, [.ref h_net, .ref h_now, .ref a_don, .ref a_wri, .ref h_per, .ref a_tho, .ref a_aft])), (h_net, .inr (1, [.ref h_ends, .int nc, .int sc, .int br, .int so, .int lo])), (h_ends, .inl (cI, 24, .inl ends)), (h_now, .inr (3, [.int cl, .int ea, .int on])), (h_per, .inr (2, [.ref h_hol, .int pg])), (h_hol, .inl (cI, 10, .inl hol))] H := by rw [hHe]; exact hP
  have hS : va_S A s.heap H locs := by rw [hHe, hLe]; exact hS
  have hW0 : ∀ QQ : State → Prop, W p l e (headSpec wsX4_permit rmX4_permit).room s m (([.ref h_x, .int p0] : List Value).toArray) below meth c H locs 0 0 QQ (F0 m 0 ls []) → W p l e (headSpec wsX4_permit rmX4_permit).room s m (([.ref h_x, .int p0] : List Value).toArray) below meth c s.heap [] 0 0 QQ (F0 m 0 ls []) := by rw [hHe, hLe]; exact fun _ h => h
  refine hW0 _ ?_
  clear hW0
  unfold fX4_permit at h
  refine lv_iload_n hx hb dX4_permit_0 rfl (lv_at hl 1 rfl) ?_
  refine lv_if_eq (tgt := 18) hx hb dX4_permit_1 (by decide) (fun c1 => ?_) (fun c1 => ?_)
  · have h := it_t h c1
    cases h
    obtain ⟨sa9, hsa9⟩ := hKS.1 (156, "no node, or one that there is not") (List.mem_of_getElem? (i := 9) rfl)
    rw [hQQ]
    exact vx_throwS hx hb hl0 (A := A) (own := RX4) (cls := "java/lang/IllegalArgumentException") (text := "no node, or one that there is not") (names := ["java/lang/RuntimeException", "java/lang/Exception"]) (ik := 66) (is := 156) (ic := 70) hown (by decide +kernel) (by decide +kernel) (hts _ lkX4_permit_0) (hts _ lkX4_permit_1) hsa9 (hKS.hat (fun w h => hts w (atX4_permit_70 w h)) nb_RX4_70) (go_RX4_70 66) hKZ.1 hKZ.2 hS (hl.1.trans hml.symm) dX4_permit_18 dX4_permit_21 dX4_permit_22 dX4_permit_24 dX4_permit_27 (fun x hx => (hno x hx).elim) (Nat.le_of_ble_eq_true rfl) (Nat.le_of_ble_eq_true rfl) (Nat.le_of_ble_eq_true rfl) (Nat.le_of_ble_eq_true rfl) hlocks (fun t ht hz hq => zz_XT hP hD hS hz hq) hS.2.2 (Nat.le_of_ble_eq_true rfl) (Nat.le_of_ble_eq_true rfl)
  · have h := it_f h c1
    refine lv_iload_n hx hb dX4_permit_4 rfl (lv_at hl 1 rfl) ?_
    refine lv_aload_n hx hb dX4_permit_5 rfl (lv_at hl 0 rfl) ?_
    refine va_get (D := D) (ci := 4) (v := .ref h_net) (C := RX4) (T := TX4) (N := 7) hx hb hts inX4_permit_X4 hown hK hP 0 rfl rfl 0 (by decide) (hts _ lkX4_permit_2) (fun _ h9 => h9) rfl dX4_permit_6 ?_
    obtain ⟨v2, hq3, h⟩ := bd1_e h
    refine zz_cV (As := []) ⟨hx, hb, hml, hown, hts⟩ (kX1_allNodes l D cI cZ cL h_net h_ends nc sc br so lo N hq3) (cwV 0 hts gX4_permit_X1_allNodes rfl rfl rfl (by decide +kernel) ⟨Nat.le_of_ble_eq_true rfl, Nat.le_of_ble_eq_true rfl⟩) (hP.sub (ws' := [(h_net, .inr (1, [.ref h_ends, .int nc, .int sc, .int br, .int so, .int lo]))]) [1] rfl) hKK (va_recv hK hP (ci := 1) (q0 := 1) rfl rfl) rfl hl.1 rfl (Nat.le_of_ble_eq_true rfl) dX4_permit_9 ⟨Nat.le_of_ble_eq_true rfl, Nat.le_of_ble_eq_true rfl⟩ ?_
    refine lv_iconst (v := (-1)) hx hb dX4_permit_12 (by decide) ?_
    refine lv_ixor hx hb dX4_permit_13 ?_
    refine lv_iand hx hb dX4_permit_14 ?_
    refine lv_if_eq (tgt := 28) hx hb dX4_permit_15 (by decide) (fun c4 => ?_) (fun c4 => ?_)
    · have h := it_t h c4
      refine lv_aload_n hx hb dX4_permit_28 rfl (lv_at hl 0 rfl) ?_
      refine lv_iload_n hx hb dX4_permit_29 rfl (lv_at hl 1 rfl) ?_
      obtain ⟨v5, hq6, h⟩ := bd1_e h
      refine zz_cV (As := [.int p0]) ⟨hx, hb, hml, hown, hts⟩ (kX4_canBeHeld l D cI cZ cL h_x a_don a_wri a_tho a_aft h_net h_ends h_now h_per h_hol nc sc br so lo ends cl ea on pg hol p0 N hq6) (cwV 1 hts gX4_permit_X4_canBeHeld rfl rfl rfl (by decide +kernel) ⟨Nat.le_of_ble_eq_true rfl, Nat.le_of_ble_eq_true rfl⟩) (hP.sub (ws' := [(h_x, .inr (4, [.ref h_net, .ref h_now, .ref a_don, .ref a_wri, .ref h_per, .ref a_tho, .ref a_aft])), (h_net, .inr (1, [.ref h_ends, .int nc, .int sc, .int br, .int so, .int lo])), (h_ends, .inl (cI, 24, .inl ends)), (h_now, .inr (3, [.int cl, .int ea, .int on])), (h_per, .inr (2, [.ref h_hol, .int pg])), (h_hol, .inl (cI, 10, .inl hol))]) [0, 1, 2, 3, 4, 5] rfl) hKK (va_recv hK hP (ci := 4) (q0 := 0) rfl rfl) rfl hl.1 rfl (Nat.le_of_ble_eq_true rfl) dX4_permit_30 ⟨Nat.le_of_ble_eq_true rfl, Nat.le_of_ble_eq_true rfl⟩ ?_
      refine lv_if_ne (tgt := 46) hx hb dX4_permit_33 (by decide) (fun c7 => ?_) (fun c7 => ?_)
      · have h := it_f h c7
        refine lv_aload_n hx hb dX4_permit_46 rfl (lv_at hl 0 rfl) ?_
        refine va_get (D := D) (ci := 4) (v := .ref h_per) (C := RX4) (T := TX4) (N := 7) hx hb hts inX4_permit_X4 hown hK hP 0 rfl rfl 4 (by decide) (hts _ lkX4_permit_3) (fun _ h9 => h9) rfl dX4_permit_47 ?_
        obtain ⟨v8, hq9, h⟩ := bd1_e h
        refine zz_cV (As := []) ⟨hx, hb, hml, hown, hts⟩ (kX2_given l D cI cZ cL h_per h_hol pg N hq9) (cwV 0 hts gX4_permit_X2_given rfl rfl rfl (by decide +kernel) ⟨Nat.le_of_ble_eq_true rfl, Nat.le_of_ble_eq_true rfl⟩) (hP.sub (ws' := [(h_per, .inr (2, [.ref h_hol, .int pg]))]) [4] rfl) hKK (va_recv hK hP (ci := 2) (q0 := 4) rfl rfl) rfl hl.1 rfl (Nat.le_of_ble_eq_true rfl) dX4_permit_50 ⟨Nat.le_of_ble_eq_true rfl, Nat.le_of_ble_eq_true rfl⟩ ?_
        refine lv_bipush (v := 10) hx hb dX4_permit_53 (by decide) ?_
        refine lv_icmp_lt (tgt := 68) hx hb dX4_permit_55 (by decide) (fun c10 => ?_) (fun c10 => ?_)
        · have h := it_t h c10
          refine lv_aload_n hx hb dX4_permit_68 rfl (lv_at hl 0 rfl) ?_
          refine va_get (D := D) (ci := 4) (v := .ref h_per) (C := RX4) (T := TX4) (N := 7) hx hb hts inX4_permit_X4 hown hK hP 0 rfl rfl 4 (by decide) (hts _ lkX4_permit_3) (fun _ h9 => h9) rfl dX4_permit_69 ?_
          refine lv_iload_n hx hb dX4_permit_72 rfl (lv_at hl 1 rfl) ?_
          obtain ⟨v12, w13, w14, hq11, h⟩ := bd3_e h
          refine zz_mV (As := [.int p0]) (wr := [(h_x, .inr (4, [.ref h_net, .ref h_now, .ref a_don, .ref a_wri, .ref h_per, .ref a_tho, .ref a_aft])), (h_net, .inr (1, [.ref h_ends, .int nc, .int sc, .int br, .int so, .int lo])), (h_ends, .inl (cI, 24, .inl ends)), (h_now, .inr (3, [.int cl, .int ea, .int on]))]) (w1 := [(h_per, .inr (2, [.ref h_hol, .int w14])), (h_hol, .inl (cI, 10, .inl w13))]) (wt' := [(h_x, .inr (4, [.ref h_net, .ref h_now, .ref a_don, .ref a_wri, .ref h_per, .ref a_tho, .ref a_aft])), (h_net, .inr (1, [.ref h_ends, .int nc, .int sc, .int br, .int so, .int lo])), (h_ends, .inl (cI, 24, .inl ends)), (h_now, .inr (3, [.int cl, .int ea, .int on])), (h_per, .inr (2, [.ref h_hol, .int w14])), (h_hol, .inl (cI, 10, .inl w13))]) (wc := [(h_per, .inr (2, [.ref h_hol, .int pg])), (h_hol, .inl (cI, 10, .inl hol))]) (rv := (some (.int v12))) ⟨hx, hb, hml, hown, hts⟩ (kX2_give l D cI cZ cL H.size h_per h_hol pg hol p0 N hq11) (cwV 1 hts gX4_permit_X2_give rfl rfl rfl (by decide +kernel) ⟨Nat.le_of_ble_eq_true rfl, Nat.le_of_ble_eq_true rfl⟩) hP hD hS hA hKK [4, 5] [0, 1, 2, 3] [0, 1, 2, 3, 4, 5] rfl rfl (by decide) (by decide) rfl (by decide) (by decide) (va_recv hK hP (ci := 2) (q0 := 4) rfl rfl) rfl hl.1 rfl (Nat.le_of_ble_eq_true rfl) dX4_permit_73 ⟨Nat.le_of_ble_eq_true rfl, Nat.le_of_ble_eq_true rfl⟩ (fun H locs hP hD hS hz9 => ?_)
          show W p l e _ s m _ below meth c H locs _ _ QQ (F0 m 76 ls (.int v12 :: []))
          cases h
          rw [hQQ]
          refine vx_ret ?_
          refine W.widen (k := 1) (n := 6) (Nat.le_of_ble_eq_true rfl) (Nat.le_of_ble_eq_true rfl) ?_
          exact W.iret hx hb hr (fun t ht hW => ⟨_, rfl, rfl, by rw [ht]; exact hP, hD, hS.F ht⟩) hS.2.2 dX4_permit_76
        · have h := it_f h c10
          cases h
          obtain ⟨sa9, hsa9⟩ := hKS.1 (167, "10 permits were given") (List.mem_of_getElem? (i := 11) rfl)
          rw [hQQ]
          exact vx_throwS hx hb hl0 (A := A) (own := RX4) (cls := "java/lang/IllegalStateException") (text := "10 permits were given") (names := ["java/lang/RuntimeException", "java/lang/Exception"]) (ik := 52) (is := 167) (ic := 56) hown (by decide +kernel) (by decide +kernel) (hts _ lkX4_permit_4) (hts _ lkX4_permit_5) hsa9 (hKS.hat (fun w h => hts w (atX4_permit_56 w h)) nb_RX4_56) (go_RX4_56 52) hKZ.1 hKZ.2 hS (hl.1.trans hml.symm) dX4_permit_58 dX4_permit_61 dX4_permit_62 dX4_permit_64 dX4_permit_67 (fun x hx => (hno x hx).elim) (Nat.le_of_ble_eq_true rfl) (Nat.le_of_ble_eq_true rfl) (Nat.le_of_ble_eq_true rfl) (Nat.le_of_ble_eq_true rfl) hlocks (fun t ht hz hq => zz_XT hP hD hS hz hq) hS.2.2 (Nat.le_of_ble_eq_true rfl) (Nat.le_of_ble_eq_true rfl)
      · have h := it_t h c7
        cases h
        obtain ⟨sa9, hsa9⟩ := hKS.1 (162, "a node is not earthed, live, or held already") (List.mem_of_getElem? (i := 10) rfl)
        rw [hQQ]
        exact vx_throwS hx hb hl0 (A := A) (own := RX4) (cls := "java/lang/IllegalStateException") (text := "a node is not earthed, live, or held already") (names := ["java/lang/RuntimeException", "java/lang/Exception"]) (ik := 52) (is := 162) (ic := 56) hown (by decide +kernel) (by decide +kernel) (hts _ lkX4_permit_4) (hts _ lkX4_permit_5) hsa9 (hKS.hat (fun w h => hts w (atX4_permit_56 w h)) nb_RX4_56) (go_RX4_56 52) hKZ.1 hKZ.2 hS (hl.1.trans hml.symm) dX4_permit_36 dX4_permit_39 dX4_permit_40 dX4_permit_42 dX4_permit_45 (fun x hx => (hno x hx).elim) (Nat.le_of_ble_eq_true rfl) (Nat.le_of_ble_eq_true rfl) (Nat.le_of_ble_eq_true rfl) (Nat.le_of_ble_eq_true rfl) hlocks (fun t ht hz hq => zz_XT hP hD hS hz hq) hS.2.2 (Nat.le_of_ble_eq_true rfl) (Nat.le_of_ble_eq_true rfl)
    · have h := it_f h c4
      cases h
      obtain ⟨sa9, hsa9⟩ := hKS.1 (156, "no node, or one that there is not") (List.mem_of_getElem? (i := 9) rfl)
      rw [hQQ]
      exact vx_throwS hx hb hl0 (A := A) (own := RX4) (cls := "java/lang/IllegalArgumentException") (text := "no node, or one that there is not") (names := ["java/lang/RuntimeException", "java/lang/Exception"]) (ik := 66) (is := 156) (ic := 70) hown (by decide +kernel) (by decide +kernel) (hts _ lkX4_permit_0) (hts _ lkX4_permit_1) hsa9 (hKS.hat (fun w h => hts w (atX4_permit_70 w h)) nb_RX4_70) (go_RX4_70 66) hKZ.1 hKZ.2 hS (hl.1.trans hml.symm) dX4_permit_18 dX4_permit_21 dX4_permit_22 dX4_permit_24 dX4_permit_27 (fun x hx => (hno x hx).elim) (Nat.le_of_ble_eq_true rfl) (Nat.le_of_ble_eq_true rfl) (Nat.le_of_ble_eq_true rfl) (Nat.le_of_ble_eq_true rfl) hlocks (fun t ht hz hq => zz_XT hP hD hS hz hq) hS.2.2 (Nat.le_of_ble_eq_true rfl) (Nat.le_of_ble_eq_true rfl)

def fX4_handBack (N : Nat) (pg : Int32) (hol : Nat → Int32) (p0 : Int32) : Option (String ⊕ ((Int32) × (Nat → Int32))) :=
  (if p0 < 0 then some (.inl "java/lang/IndexOutOfBoundsException") else bd1 (fX2_given N pg) (fun v2 => (if p0 < v2 then bd1 (fX2_isHeld N pg hol p0) (fun v5 => (if v5 = 0 then some (.inl "java/lang/IllegalStateException") else bd1 (fX2_release N pg hol p0) (fun w9 => bd1 (fX2_countHeld N pg w9) (fun v10 => some (.inr (v10, w9)))))) else some (.inl "java/lang/IndexOutOfBoundsException"))))
set_option maxRecDepth 100000 in
theorem inX4_handBack_X4 : ∀ w ∈ wsX40, w ∈ wsX4_handBack := by decide +kernel
set_option maxRecDepth 100000 in
theorem lkX4_handBack_0 : (.classLink RX4 121 "java/lang/IndexOutOfBoundsException" : Cond) ∈ wsX4_handBack := by decide +kernel
set_option maxRecDepth 100000 in
theorem lkX4_handBack_1 : (.initialized "java/lang/IndexOutOfBoundsException" : Cond) ∈ wsX4_handBack := by decide +kernel
set_option maxRecDepth 100000 in
theorem lkX4_handBack_2 : (.fieldLink RX4 38 "Switchlog" "permits" "LSwitchlog$Permits;" : Cond) ∈ wsX4_handBack := by decide +kernel
set_option maxRecDepth 100000 in
theorem lkX4_handBack_3 : (.classLink RX4 52 "java/lang/IllegalStateException" : Cond) ∈ wsX4_handBack := by decide +kernel
set_option maxRecDepth 100000 in
theorem lkX4_handBack_4 : (.initialized "java/lang/IllegalStateException" : Cond) ∈ wsX4_handBack := by decide +kernel
set_option maxRecDepth 100000 in
theorem atX4_handBack_125 : ∀ w ∈ (vx_atS RX4 125 "java/lang/IndexOutOfBoundsException" ["java/lang/RuntimeException", "java/lang/Exception"]).filter goodWord, w ∈ wsX4_handBack := by decide +kernel
set_option maxRecDepth 100000 in
theorem atX4_handBack_56 : ∀ w ∈ (vx_atS RX4 56 "java/lang/IllegalStateException" ["java/lang/RuntimeException", "java/lang/Exception"]).filter goodWord, w ∈ wsX4_handBack := by decide +kernel
abbrev rmX4_handBack : Room := { frames := 6, cells := 1, slots := 6, locals := 82 }
set_option maxHeartbeats 4000000 in
set_option maxRecDepth 100000 in
theorem kX4_handBack (l : Launch) (hl0 : l.stackTraces = false) (D : va_G) (cI cZ cL : ClassId) (sz0 : Nat) (h_x a_net a_now a_don a_wri a_tho a_aft h_per h_hol : Nat) (pg : Int32) (hol : Nat → Int32) (p0 : Int32) (N : Nat) {R : String ⊕ ((Int32) × (Nat → Int32))} (h : fX4_handBack N pg hol p0 = some R) : vx_Met l yX4_handBack wsX4_handBack rmX4_handBack (PT D cI cZ cL [.ref h_x, .int p0] [(h_x, .inr (4, [.ref a_net, .ref a_now, .ref a_don, .ref a_wri, .ref h_per, .ref a_tho, .ref a_aft])), (h_per, .inr (2, [.ref h_hol, .int pg])), (h_hol, .inl (cI, 10, .inl hol))] sz0) (QT D (fun u => some (.int u.1)) (va_A [(h_x, .inr (4, [.ref a_net, .ref a_now, .ref a_don, .ref a_wri, .ref h_per, .ref a_tho, .ref a_aft])), (h_per, .inr (2, [.ref h_hol, .int pg])), (h_hol, .inl (cI, 10, .inl hol))] sz0) (fun u : (Int32) × (Nat → Int32) => [(h_x, .inr (4, [.ref a_net, .ref a_now, .ref a_don, .ref a_wri, .ref h_per, .ref a_tho, .ref a_aft])), (h_per, .inr (2, [.ref h_hol, .int pg])), (h_hol, .inl (cI, 10, .inl u.2))]) R) (XT D (va_A [(h_x, .inr (4, [.ref a_net, .ref a_now, .ref a_don, .ref a_wri, .ref h_per, .ref a_tho, .ref a_aft])), (h_per, .inr (2, [.ref h_hol, .int pg])), (h_hol, .inl (cI, 10, .inl hol))] sz0) [(h_x, .inr (4, [.ref a_net, .ref a_now, .ref a_don, .ref a_wri, .ref h_per, .ref a_tho, .ref a_aft])), (h_per, .inr (2, [.ref h_hol, .int pg])), (h_hol, .inl (cI, 10, .inl hol))] R) 1 6 (va_A [(h_x, .inr (4, [.ref a_net, .ref a_now, .ref a_don, .ref a_wri, .ref h_per, .ref a_tho, .ref a_aft])), (h_per, .inr (2, [.ref h_hol, .int pg])), (h_hol, .inl (cI, 10, .inl hol))] sz0) := by
  refine vx_ofW (cc := cX4_handBack) (maxL := 2) (ret := (some .int)) (by decide) rfl ?_
  intro p e s m args below meth c s₁ B hml hno hv
  obtain ⟨rfl, hsz, hP, hKK, hD0, hKS, hKZ⟩ := hv
  have hK := hKK.1
  have hx := B.exec
  have hb := B.bytes
  have hr := B.returns
  have hts := atoms_spec (ws := wsX4_handBack) B.pre
  have hown : s.vm.findClass RX4 = some m.cls := findClass_of_methodNamed B.named
  have hlocks := B.notSynchronized
  subst hsz
  have hD := hD0.self (sz := s.heap.size)
  generalize hAe : va_A [(h_x, .inr (4, [.ref a_net, .ref a_now, .ref a_don, .ref a_wri, .ref h_per, .ref a_tho, .ref a_aft])), (h_per, .inr (2, [.ref h_hol, .int pg])), (h_hol, .inl (cI, 10, .inl hol))] s.heap.size = A at hD hKZ ⊢
  have hA : ∀ q : Nat, s.heap.size ≤ q → A q := fun q h => by rw [← hAe]; exact Or.inr h
  have hS : va_S A s.heap s.heap [] := va_S.rf
  have hl := lv_entry ([.ref h_x, .int p0]) (n := 2) (Nat.le_of_ble_eq_true rfl)
  rw [lg_entry_eq]
  generalize (lg_sl ([.ref h_x, .int p0]) ++ List.replicate (2 - (lg_sl ([.ref h_x, .int p0])).length) Slot.unset).toArray = ls at hl ⊢
  have hl : lv_has ls 2 [(0, .ref h_x), (1, .int p0)] := hl
  obtain ⟨QQ, hQQ⟩ : ∃ Z, Z = vx_MQ below (QT D (fun u => some (.int u.1)) A (fun u : (Int32) × (Nat → Int32) => [(h_x, .inr (4, [.ref a_net, .ref a_now, .ref a_don, .ref a_wri, .ref h_per, .ref a_tho, .ref a_aft])), (h_per, .inr (2, [.ref h_hol, .int pg])), (h_hol, .inl (cI, 10, .inl u.2))]) R) (XT D A [(h_x, .inr (4, [.ref a_net, .ref a_now, .ref a_don, .ref a_wri, .ref h_per, .ref a_tho, .ref a_aft])), (h_per, .inr (2, [.ref h_hol, .int pg])), (h_hol, .inl (cI, 10, .inl hol))] R) ([.ref h_x, .int p0] : List Value).toArray s 1 6 A := ⟨_, rfl⟩
  rw [← hQQ]
  obtain ⟨H, locs, hHe, hLe⟩ : ∃ (H : Heap) (locs : List Loc), H = s.heap ∧ locs = [] := ⟨_, _, rfl, rfl⟩
  have hP : va_P D vwCl [(h_x, .inr (4, [.ref a_net, .ref a_now, .ref a_don, .ref a_wri, .ref h_per, .ref a_tho, .ref a_aft])), (h_per, .inr (2, [.ref h_hol, .int pg])), (h_hol, .inl (cI, 10, .inl hol))] H := by rw [hHe]; exact hP
  have hS : va_S A s.heap H locs := by rw [hHe, hLe]; exact hS
  have hW0 : ∀ QQ : State → Prop, W p l e (headSpec wsX4_handBack rmX4_handBack).room s m (([.ref h_x, .int p0] : List Value).toArray) below meth c H locs 0 0 QQ (F0 m 0 ls []) → W p l e (headSpec wsX4_handBack rmX4_handBack).room s m (([.ref h_x, .int p0] : List Value).toArray) below meth c s.heap [] 0 0 QQ (F0 m 0 ls []) := by rw [hHe, hLe]; exact fun _ h => h
  refine hW0 _ ?_
  clear hW0
  unfold fX4_handBack at h
  refine lv_iload_n hx hb dX4_handBack_0 rfl (lv_at hl 1 rfl) ?_
  refine lv_if_lt (tgt := 15) hx hb dX4_handBack_1 (by decide) (fun c1 => ?_) (fun c1 => ?_)
  · have h := it_t h c1
    cases h
    obtain ⟨sa9, hsa9⟩ := hKS.1 (172, "no such permit was given") (List.mem_of_getElem? (i := 12) rfl)
    rw [hQQ]
    exact vx_throwS hx hb hl0 (A := A) (own := RX4) (cls := "java/lang/IndexOutOfBoundsException") (text := "no such permit was given") (names := ["java/lang/RuntimeException", "java/lang/Exception"]) (ik := 121) (is := 172) (ic := 125) hown (by decide +kernel) (by decide +kernel) (hts _ lkX4_handBack_0) (hts _ lkX4_handBack_1) hsa9 (hKS.hat (fun w h => hts w (atX4_handBack_125 w h)) nb_RX4_125) (go_RX4_125 121) hKZ.1 hKZ.2 hS (hl.1.trans hml.symm) dX4_handBack_15 dX4_handBack_18 dX4_handBack_19 dX4_handBack_21 dX4_handBack_24 (fun x hx => (hno x hx).elim) (Nat.le_of_ble_eq_true rfl) (Nat.le_of_ble_eq_true rfl) (Nat.le_of_ble_eq_true rfl) (Nat.le_of_ble_eq_true rfl) hlocks (fun t ht hz hq => zz_XT hP hD hS hz hq) hS.2.2 (Nat.le_of_ble_eq_true rfl) (Nat.le_of_ble_eq_true rfl)
  · have h := it_f h c1
    refine lv_iload_n hx hb dX4_handBack_4 rfl (lv_at hl 1 rfl) ?_
    refine lv_aload_n hx hb dX4_handBack_5 rfl (lv_at hl 0 rfl) ?_
    refine va_get (D := D) (ci := 4) (v := .ref h_per) (C := RX4) (T := TX4) (N := 7) hx hb hts inX4_handBack_X4 hown hK hP 0 rfl rfl 4 (by decide) (hts _ lkX4_handBack_2) (fun _ h9 => h9) rfl dX4_handBack_6 ?_
    obtain ⟨v2, hq3, h⟩ := bd1_e h
    refine zz_cV (As := []) ⟨hx, hb, hml, hown, hts⟩ (kX2_given l D cI cZ cL h_per h_hol pg N hq3) (cwV 0 hts gX4_handBack_X2_given rfl rfl rfl (by decide +kernel) ⟨Nat.le_of_ble_eq_true rfl, Nat.le_of_ble_eq_true rfl⟩) (hP.sub (ws' := [(h_per, .inr (2, [.ref h_hol, .int pg]))]) [1] rfl) hKK (va_recv hK hP (ci := 2) (q0 := 1) rfl rfl) rfl hl.1 rfl (Nat.le_of_ble_eq_true rfl) dX4_handBack_9 ⟨Nat.le_of_ble_eq_true rfl, Nat.le_of_ble_eq_true rfl⟩ ?_
    refine lv_icmp_lt (tgt := 25) hx hb dX4_handBack_12 (by decide) (fun c4 => ?_) (fun c4 => ?_)
    · have h := it_t h c4
      refine lv_aload_n hx hb dX4_handBack_25 rfl (lv_at hl 0 rfl) ?_
      refine va_get (D := D) (ci := 4) (v := .ref h_per) (C := RX4) (T := TX4) (N := 7) hx hb hts inX4_handBack_X4 hown hK hP 0 rfl rfl 4 (by decide) (hts _ lkX4_handBack_2) (fun _ h9 => h9) rfl dX4_handBack_26 ?_
      refine lv_iload_n hx hb dX4_handBack_29 rfl (lv_at hl 1 rfl) ?_
      obtain ⟨v5, hq6, h⟩ := bd1_e h
      refine zz_cV (As := [.int p0]) ⟨hx, hb, hml, hown, hts⟩ (kX2_isHeld l D cI cZ cL h_per h_hol pg hol p0 N hq6) (cwV 1 hts gX4_handBack_X2_isHeld rfl rfl rfl (by decide +kernel) ⟨Nat.le_of_ble_eq_true rfl, Nat.le_of_ble_eq_true rfl⟩) (hP.sub (ws' := [(h_per, .inr (2, [.ref h_hol, .int pg])), (h_hol, .inl (cI, 10, .inl hol))]) [1, 2] rfl) hKK (va_recv hK hP (ci := 2) (q0 := 1) rfl rfl) rfl hl.1 rfl (Nat.le_of_ble_eq_true rfl) dX4_handBack_30 ⟨Nat.le_of_ble_eq_true rfl, Nat.le_of_ble_eq_true rfl⟩ ?_
      refine lv_if_ne (tgt := 46) hx hb dX4_handBack_33 (by decide) (fun c7 => ?_) (fun c7 => ?_)
      · have h := it_f h c7
        refine lv_aload_n hx hb dX4_handBack_46 rfl (lv_at hl 0 rfl) ?_
        refine va_get (D := D) (ci := 4) (v := .ref h_per) (C := RX4) (T := TX4) (N := 7) hx hb hts inX4_handBack_X4 hown hK hP 0 rfl rfl 4 (by decide) (hts _ lkX4_handBack_2) (fun _ h9 => h9) rfl dX4_handBack_47 ?_
        refine lv_iload_n hx hb dX4_handBack_50 rfl (lv_at hl 1 rfl) ?_
        obtain ⟨w9, hq8, h⟩ := bd1_e h
        refine zz_mV (As := [.int p0]) (wr := [(h_x, .inr (4, [.ref a_net, .ref a_now, .ref a_don, .ref a_wri, .ref h_per, .ref a_tho, .ref a_aft]))]) (w1 := [(h_per, .inr (2, [.ref h_hol, .int pg])), (h_hol, .inl (cI, 10, .inl w9))]) (wt' := [(h_x, .inr (4, [.ref a_net, .ref a_now, .ref a_don, .ref a_wri, .ref h_per, .ref a_tho, .ref a_aft])), (h_per, .inr (2, [.ref h_hol, .int pg])), (h_hol, .inl (cI, 10, .inl w9))]) (wc := [(h_per, .inr (2, [.ref h_hol, .int pg])), (h_hol, .inl (cI, 10, .inl hol))]) (rv := none) ⟨hx, hb, hml, hown, hts⟩ (kX2_release l D cI cZ cL H.size h_per h_hol pg hol p0 N hq8) (cwV 1 hts gX4_handBack_X2_release rfl rfl rfl (by decide +kernel) ⟨Nat.le_of_ble_eq_true rfl, Nat.le_of_ble_eq_true rfl⟩) hP hD hS hA hKK [1, 2] [0] [0, 1, 2] rfl rfl (by decide) (by decide) rfl (by decide) (by decide) (va_recv hK hP (ci := 2) (q0 := 1) rfl rfl) rfl hl.1 rfl (Nat.le_of_ble_eq_true rfl) dX4_handBack_51 ⟨Nat.le_of_ble_eq_true rfl, Nat.le_of_ble_eq_true rfl⟩ (fun H locs hP hD hS hz9 => ?_)
        show W p l e _ s m _ below meth c H locs _ _ QQ (F0 m 54 ls [])
        refine lv_aload_n hx hb dX4_handBack_54 rfl (lv_at hl 0 rfl) ?_
        refine va_get (D := D) (ci := 4) (v := .ref h_per) (C := RX4) (T := TX4) (N := 7) hx hb hts inX4_handBack_X4 hown hK hP 0 rfl rfl 4 (by decide) (hts _ lkX4_handBack_2) (fun _ h9 => h9) rfl dX4_handBack_55 ?_
        obtain ⟨v10, hq11, h⟩ := bd1_e h
        refine zz_cV (As := []) ⟨hx, hb, hml, hown, hts⟩ (kX2_countHeld l D cI cZ cL h_per h_hol pg w9 N hq11) (cwV 0 hts gX4_handBack_X2_countHeld rfl rfl rfl (by decide +kernel) ⟨Nat.le_of_ble_eq_true rfl, Nat.le_of_ble_eq_true rfl⟩) (hP.sub (ws' := [(h_per, .inr (2, [.ref h_hol, .int pg])), (h_hol, .inl (cI, 10, .inl w9))]) [1, 2] rfl) hKK (va_recv hK hP (ci := 2) (q0 := 1) rfl rfl) rfl hl.1 rfl (Nat.le_of_ble_eq_true rfl) dX4_handBack_58 ⟨Nat.le_of_ble_eq_true rfl, Nat.le_of_ble_eq_true rfl⟩ ?_
        cases h
        rw [hQQ]
        refine vx_ret ?_
        refine W.widen (k := 1) (n := 6) (Nat.le_of_ble_eq_true rfl) (Nat.le_of_ble_eq_true rfl) ?_
        exact W.iret hx hb hr (fun t ht hW => ⟨_, rfl, rfl, by rw [ht]; exact hP, hD, hS.F ht⟩) hS.2.2 dX4_handBack_61
      · have h := it_t h c7
        cases h
        obtain ⟨sa9, hsa9⟩ := hKS.1 (177, "the permit was handed back") (List.mem_of_getElem? (i := 13) rfl)
        rw [hQQ]
        exact vx_throwS hx hb hl0 (A := A) (own := RX4) (cls := "java/lang/IllegalStateException") (text := "the permit was handed back") (names := ["java/lang/RuntimeException", "java/lang/Exception"]) (ik := 52) (is := 177) (ic := 56) hown (by decide +kernel) (by decide +kernel) (hts _ lkX4_handBack_3) (hts _ lkX4_handBack_4) hsa9 (hKS.hat (fun w h => hts w (atX4_handBack_56 w h)) nb_RX4_56) (go_RX4_56 52) hKZ.1 hKZ.2 hS (hl.1.trans hml.symm) dX4_handBack_36 dX4_handBack_39 dX4_handBack_40 dX4_handBack_42 dX4_handBack_45 (fun x hx => (hno x hx).elim) (Nat.le_of_ble_eq_true rfl) (Nat.le_of_ble_eq_true rfl) (Nat.le_of_ble_eq_true rfl) (Nat.le_of_ble_eq_true rfl) hlocks (fun t ht hz hq => zz_XT hP hD hS hz hq) hS.2.2 (Nat.le_of_ble_eq_true rfl) (Nat.le_of_ble_eq_true rfl)
    · have h := it_f h c4
      cases h
      obtain ⟨sa9, hsa9⟩ := hKS.1 (172, "no such permit was given") (List.mem_of_getElem? (i := 12) rfl)
      rw [hQQ]
      exact vx_throwS hx hb hl0 (A := A) (own := RX4) (cls := "java/lang/IndexOutOfBoundsException") (text := "no such permit was given") (names := ["java/lang/RuntimeException", "java/lang/Exception"]) (ik := 121) (is := 172) (ic := 125) hown (by decide +kernel) (by decide +kernel) (hts _ lkX4_handBack_0) (hts _ lkX4_handBack_1) hsa9 (hKS.hat (fun w h => hts w (atX4_handBack_125 w h)) nb_RX4_125) (go_RX4_125 121) hKZ.1 hKZ.2 hS (hl.1.trans hml.symm) dX4_handBack_15 dX4_handBack_18 dX4_handBack_19 dX4_handBack_21 dX4_handBack_24 (fun x hx => (hno x hx).elim) (Nat.le_of_ble_eq_true rfl) (Nat.le_of_ble_eq_true rfl) (Nat.le_of_ble_eq_true rfl) (Nat.le_of_ble_eq_true rfl) hlocks (fun t ht hz hq => zz_XT hP hD hS hz hq) hS.2.2 (Nat.le_of_ble_eq_true rfl) (Nat.le_of_ble_eq_true rfl)

def fX4_isClosed (N : Nat) (nc : Int32) (sc : Int32) (br : Int32) (so : Int32) (lo : Int32) (cl : Int32) (ea : Int32) (on : Int32) (p0 : Int32) : Option (String ⊕ ((Int32))) :=
  bd1 (fX1_hasSwitch N nc sc br so lo p0) (fun v1 => (if v1 = 0 then some (.inl "java/lang/IndexOutOfBoundsException") else bd1 (fX3_isOn N cl ea on 1 p0) (fun v4 => gd (bz v4) (some (.inr v4)))))
set_option maxRecDepth 100000 in
theorem inX4_isClosed_X4 : ∀ w ∈ wsX40, w ∈ wsX4_isClosed := by decide +kernel
set_option maxRecDepth 100000 in
theorem lkX4_isClosed_0 : (.fieldLink RX4 10 "Switchlog" "net" "LSwitchlog$Net;" : Cond) ∈ wsX4_isClosed := by decide +kernel
set_option maxRecDepth 100000 in
theorem lkX4_isClosed_1 : (.fieldLink RX4 19 "Switchlog" "now" "LSwitchlog$State;" : Cond) ∈ wsX4_isClosed := by decide +kernel
set_option maxRecDepth 100000 in
theorem lkX4_isClosed_2 : (.classLink RX4 121 "java/lang/IndexOutOfBoundsException" : Cond) ∈ wsX4_isClosed := by decide +kernel
set_option maxRecDepth 100000 in
theorem lkX4_isClosed_3 : (.initialized "java/lang/IndexOutOfBoundsException" : Cond) ∈ wsX4_isClosed := by decide +kernel
set_option maxRecDepth 100000 in
theorem atX4_isClosed_125 : ∀ w ∈ (vx_atS RX4 125 "java/lang/IndexOutOfBoundsException" ["java/lang/RuntimeException", "java/lang/Exception"]).filter goodWord, w ∈ wsX4_isClosed := by decide +kernel
abbrev rmX4_isClosed : Room := { frames := 6, cells := 1, slots := 6, locals := 82 }
set_option maxHeartbeats 4000000 in
set_option maxRecDepth 100000 in
theorem kX4_isClosed (l : Launch) (hl0 : l.stackTraces = false) (D : va_G) (cI cZ cL : ClassId) (sz0 : Nat) (h_x a_don a_wri a_per a_tho a_aft h_net a_ends h_now : Nat) (nc : Int32) (sc : Int32) (br : Int32) (so : Int32) (lo : Int32) (cl : Int32) (ea : Int32) (on : Int32) (p0 : Int32) (N : Nat) {R : String ⊕ ((Int32))} (h : fX4_isClosed N nc sc br so lo cl ea on p0 = some R) : vx_Met l yX4_isClosed wsX4_isClosed rmX4_isClosed (PT D cI cZ cL [.ref h_x, .int p0] [(h_x, .inr (4, [.ref h_net, .ref h_now, .ref a_don, .ref a_wri, .ref a_per, .ref a_tho, .ref a_aft])), (h_net, .inr (1, [.ref a_ends, .int nc, .int sc, .int br, .int so, .int lo])), (h_now, .inr (3, [.int cl, .int ea, .int on]))] sz0) (QT D (fun u => some (.int u)) (va_A [(h_x, .inr (4, [.ref h_net, .ref h_now, .ref a_don, .ref a_wri, .ref a_per, .ref a_tho, .ref a_aft])), (h_net, .inr (1, [.ref a_ends, .int nc, .int sc, .int br, .int so, .int lo])), (h_now, .inr (3, [.int cl, .int ea, .int on]))] sz0) (fun u : (Int32) => [(h_x, .inr (4, [.ref h_net, .ref h_now, .ref a_don, .ref a_wri, .ref a_per, .ref a_tho, .ref a_aft])), (h_net, .inr (1, [.ref a_ends, .int nc, .int sc, .int br, .int so, .int lo])), (h_now, .inr (3, [.int cl, .int ea, .int on]))]) R) (XT D (va_A [(h_x, .inr (4, [.ref h_net, .ref h_now, .ref a_don, .ref a_wri, .ref a_per, .ref a_tho, .ref a_aft])), (h_net, .inr (1, [.ref a_ends, .int nc, .int sc, .int br, .int so, .int lo])), (h_now, .inr (3, [.int cl, .int ea, .int on]))] sz0) [(h_x, .inr (4, [.ref h_net, .ref h_now, .ref a_don, .ref a_wri, .ref a_per, .ref a_tho, .ref a_aft])), (h_net, .inr (1, [.ref a_ends, .int nc, .int sc, .int br, .int so, .int lo])), (h_now, .inr (3, [.int cl, .int ea, .int on]))] R) 1 6 (va_A [(h_x, .inr (4, [.ref h_net, .ref h_now, .ref a_don, .ref a_wri, .ref a_per, .ref a_tho, .ref a_aft])), (h_net, .inr (1, [.ref a_ends, .int nc, .int sc, .int br, .int so, .int lo])), (h_now, .inr (3, [.int cl, .int ea, .int on]))] sz0) := by
  refine vx_ofW (cc := cX4_isClosed) (maxL := 2) (ret := (some .boolean)) (by decide) rfl ?_
  intro p e s m args below meth c s₁ B hml hno hv
  obtain ⟨rfl, hsz, hP, hKK, hD0, hKS, hKZ⟩ := hv
  have hK := hKK.1
  have hx := B.exec
  have hb := B.bytes
  have hr := B.returns
  have hts := atoms_spec (ws := wsX4_isClosed) B.pre
  have hown : s.vm.findClass RX4 = some m.cls := findClass_of_methodNamed B.named
  have hlocks := B.notSynchronized
  subst hsz
  have hD := hD0.self (sz := s.heap.size)
  generalize hAe : va_A [(h_x, .inr (4, [.ref h_net, .ref h_now, .ref a_don, .ref a_wri, .ref a_per, .ref a_tho, .ref a_aft])), (h_net, .inr (1, [.ref a_ends, .int nc, .int sc, .int br, .int so, .int lo])), (h_now, .inr (3, [.int cl, .int ea, .int on]))] s.heap.size = A at hD hKZ ⊢
  have hA : ∀ q : Nat, s.heap.size ≤ q → A q := fun q h => by rw [← hAe]; exact Or.inr h
  have hS : va_S A s.heap s.heap [] := va_S.rf
  have hl := lv_entry ([.ref h_x, .int p0]) (n := 2) (Nat.le_of_ble_eq_true rfl)
  rw [lg_entry_eq]
  generalize (lg_sl ([.ref h_x, .int p0]) ++ List.replicate (2 - (lg_sl ([.ref h_x, .int p0])).length) Slot.unset).toArray = ls at hl ⊢
  have hl : lv_has ls 2 [(0, .ref h_x), (1, .int p0)] := hl
  obtain ⟨QQ, hQQ⟩ : ∃ Z, Z = vx_MQ below (QT D (fun u => some (.int u)) A (fun u : (Int32) => [(h_x, .inr (4, [.ref h_net, .ref h_now, .ref a_don, .ref a_wri, .ref a_per, .ref a_tho, .ref a_aft])), (h_net, .inr (1, [.ref a_ends, .int nc, .int sc, .int br, .int so, .int lo])), (h_now, .inr (3, [.int cl, .int ea, .int on]))]) R) (XT D A [(h_x, .inr (4, [.ref h_net, .ref h_now, .ref a_don, .ref a_wri, .ref a_per, .ref a_tho, .ref a_aft])), (h_net, .inr (1, [.ref a_ends, .int nc, .int sc, .int br, .int so, .int lo])), (h_now, .inr (3, [.int cl, .int ea, .int on]))] R) ([.ref h_x, .int p0] : List Value).toArray s 1 6 A := ⟨_, rfl⟩
  rw [← hQQ]
  obtain ⟨H, locs, hHe, hLe⟩ : ∃ (H : Heap) (locs : List Loc), H = s.heap ∧ locs = [] := ⟨_, _, rfl, rfl⟩
  have hP : va_P D vwCl [(h_x, .inr (4, [.ref h_net, .ref h_now, .ref a_don, .ref a_wri, .ref a_per, .ref a_tho, .ref a_aft])), (h_net, .inr (1, [.ref a_ends, .int nc, .int sc, .int br, .int so, .int lo])), (h_now, .inr (3, [.int cl, .int ea, .int on]))] H := by rw [hHe]; exact hP
  have hS : va_S A s.heap H locs := by rw [hHe, hLe]; exact hS
  have hW0 : ∀ QQ : State → Prop, W p l e (headSpec wsX4_isClosed rmX4_isClosed).room s m (([.ref h_x, .int p0] : List Value).toArray) below meth c H locs 0 0 QQ (F0 m 0 ls []) → W p l e (headSpec wsX4_isClosed rmX4_isClosed).room s m (([.ref h_x, .int p0] : List Value).toArray) below meth c s.heap [] 0 0 QQ (F0 m 0 ls []) := by rw [hHe, hLe]; exact fun _ h => h
  refine hW0 _ ?_
  clear hW0
  unfold fX4_isClosed at h
  refine lv_aload_n hx hb dX4_isClosed_0 rfl (lv_at hl 0 rfl) ?_
  refine va_get (D := D) (ci := 4) (v := .ref h_net) (C := RX4) (T := TX4) (N := 7) hx hb hts inX4_isClosed_X4 hown hK hP 0 rfl rfl 0 (by decide) (hts _ lkX4_isClosed_0) (fun _ h9 => h9) rfl dX4_isClosed_1 ?_
  refine lv_iload_n hx hb dX4_isClosed_4 rfl (lv_at hl 1 rfl) ?_
  obtain ⟨v1, hq2, h⟩ := bd1_e h
  refine zz_cV (As := [.int p0]) ⟨hx, hb, hml, hown, hts⟩ (kX1_hasSwitch l D cI cZ cL h_net a_ends nc sc br so lo p0 N hq2) (cwV 1 hts gX4_isClosed_X1_hasSwitch rfl rfl rfl (by decide +kernel) ⟨Nat.le_of_ble_eq_true rfl, Nat.le_of_ble_eq_true rfl⟩) (hP.sub (ws' := [(h_net, .inr (1, [.ref a_ends, .int nc, .int sc, .int br, .int so, .int lo]))]) [1] rfl) hKK (va_recv hK hP (ci := 1) (q0 := 1) rfl rfl) rfl hl.1 rfl (Nat.le_of_ble_eq_true rfl) dX4_isClosed_5 ⟨Nat.le_of_ble_eq_true rfl, Nat.le_of_ble_eq_true rfl⟩ ?_
  refine lv_if_ne (tgt := 21) hx hb dX4_isClosed_8 (by decide) (fun c3 => ?_) (fun c3 => ?_)
  · have h := it_f h c3
    refine lv_aload_n hx hb dX4_isClosed_21 rfl (lv_at hl 0 rfl) ?_
    refine va_get (D := D) (ci := 4) (v := .ref h_now) (C := RX4) (T := TX4) (N := 7) hx hb hts inX4_isClosed_X4 hown hK hP 0 rfl rfl 1 (by decide) (hts _ lkX4_isClosed_1) (fun _ h9 => h9) rfl dX4_isClosed_22 ?_
    refine lv_iconst (v := 1) hx hb dX4_isClosed_25 (by decide) ?_
    refine lv_iload_n hx hb dX4_isClosed_26 rfl (lv_at hl 1 rfl) ?_
    obtain ⟨v4, hq5, h⟩ := bd1_e h
    refine zz_cV (As := [.int 1, .int p0]) ⟨hx, hb, hml, hown, hts⟩ (kX3_isOn l D cI cZ cL h_now cl ea on 1 p0 N hq5) (cwV 2 hts gX4_isClosed_X3_isOn rfl rfl rfl (by decide +kernel) ⟨Nat.le_of_ble_eq_true rfl, Nat.le_of_ble_eq_true rfl⟩) (hP.sub (ws' := [(h_now, .inr (3, [.int cl, .int ea, .int on]))]) [2] rfl) hKK (va_recv hK hP (ci := 3) (q0 := 2) rfl rfl) rfl hl.1 rfl (Nat.le_of_ble_eq_true rfl) dX4_isClosed_27 ⟨Nat.le_of_ble_eq_true rfl, Nat.le_of_ble_eq_true rfl⟩ ?_
    obtain ⟨hz, h⟩ := gd_e h
    cases h
    rw [hQQ]
    refine vx_ret ?_
    refine W.widen (k := 1) (n := 6) (Nat.le_of_ble_eq_true rfl) (Nat.le_of_ble_eq_true rfl) ?_
    exact W.zret hx hb hr (bz_e hz) (fun t ht hW => ⟨_, rfl, rfl, by rw [ht]; exact hP, hD, hS.F ht⟩) hS.2.2 dX4_isClosed_30
  · have h := it_t h c3
    cases h
    obtain ⟨sa9, hsa9⟩ := hKS.1 (191, "no such switch") (List.mem_of_getElem? (i := 14) rfl)
    rw [hQQ]
    exact vx_throwS hx hb hl0 (A := A) (own := RX4) (cls := "java/lang/IndexOutOfBoundsException") (text := "no such switch") (names := ["java/lang/RuntimeException", "java/lang/Exception"]) (ik := 121) (is := 191) (ic := 125) hown (by decide +kernel) (by decide +kernel) (hts _ lkX4_isClosed_2) (hts _ lkX4_isClosed_3) hsa9 (hKS.hat (fun w h => hts w (atX4_isClosed_125 w h)) nb_RX4_125) (go_RX4_125 121) hKZ.1 hKZ.2 hS (hl.1.trans hml.symm) dX4_isClosed_11 dX4_isClosed_14 dX4_isClosed_15 dX4_isClosed_17 dX4_isClosed_20 (fun x hx => (hno x hx).elim) (Nat.le_of_ble_eq_true rfl) (Nat.le_of_ble_eq_true rfl) (Nat.le_of_ble_eq_true rfl) (Nat.le_of_ble_eq_true rfl) hlocks (fun t ht hz hq => zz_XT hP hD hS hz hq) hS.2.2 (Nat.le_of_ble_eq_true rfl) (Nat.le_of_ble_eq_true rfl)

def fX4_part (N : Nat) (nc : Int32) (sc : Int32) (br : Int32) (so : Int32) (lo : Int32) (ends : Nat → Int32) (cl : Int32) (ea : Int32) (on : Int32) (p0 : Int32) : Option (String ⊕ ((Int32))) :=
  bx0 (fX4_requireNode N nc sc br so lo p0) (bd1 (fX1_connectedWith N nc sc br so lo ends cl ea on ((1 : Int32) <<< (p0 &&& 31))) (fun v3 => some (.inr v3)))
set_option maxRecDepth 100000 in
theorem inX4_part_X4 : ∀ w ∈ wsX40, w ∈ wsX4_part := by decide +kernel
set_option maxRecDepth 100000 in
theorem lkX4_part_0 : (.fieldLink RX4 10 "Switchlog" "net" "LSwitchlog$Net;" : Cond) ∈ wsX4_part := by decide +kernel
set_option maxRecDepth 100000 in
theorem lkX4_part_1 : (.fieldLink RX4 19 "Switchlog" "now" "LSwitchlog$State;" : Cond) ∈ wsX4_part := by decide +kernel
abbrev rmX4_part : Room := { frames := 7, cells := 1, slots := 6, locals := 103 }
set_option maxHeartbeats 4000000 in
set_option maxRecDepth 100000 in
theorem kX4_part (l : Launch) (hl0 : l.stackTraces = false) (D : va_G) (cI cZ cL : ClassId) (sz0 : Nat) (h_x a_don a_wri a_per a_tho a_aft h_net h_ends h_now : Nat) (nc : Int32) (sc : Int32) (br : Int32) (so : Int32) (lo : Int32) (ends : Nat → Int32) (cl : Int32) (ea : Int32) (on : Int32) (p0 : Int32) (N : Nat) {R : String ⊕ ((Int32))} (h : fX4_part N nc sc br so lo ends cl ea on p0 = some R) : vx_Met l yX4_part wsX4_part rmX4_part (PT D cI cZ cL [.ref h_x, .int p0] [(h_x, .inr (4, [.ref h_net, .ref h_now, .ref a_don, .ref a_wri, .ref a_per, .ref a_tho, .ref a_aft])), (h_net, .inr (1, [.ref h_ends, .int nc, .int sc, .int br, .int so, .int lo])), (h_ends, .inl (cI, 24, .inl ends)), (h_now, .inr (3, [.int cl, .int ea, .int on]))] sz0) (QT D (fun u => some (.int u)) (va_A [(h_x, .inr (4, [.ref h_net, .ref h_now, .ref a_don, .ref a_wri, .ref a_per, .ref a_tho, .ref a_aft])), (h_net, .inr (1, [.ref h_ends, .int nc, .int sc, .int br, .int so, .int lo])), (h_ends, .inl (cI, 24, .inl ends)), (h_now, .inr (3, [.int cl, .int ea, .int on]))] sz0) (fun u : (Int32) => [(h_x, .inr (4, [.ref h_net, .ref h_now, .ref a_don, .ref a_wri, .ref a_per, .ref a_tho, .ref a_aft])), (h_net, .inr (1, [.ref h_ends, .int nc, .int sc, .int br, .int so, .int lo])), (h_ends, .inl (cI, 24, .inl ends)), (h_now, .inr (3, [.int cl, .int ea, .int on]))]) R) (XT D (va_A [(h_x, .inr (4, [.ref h_net, .ref h_now, .ref a_don, .ref a_wri, .ref a_per, .ref a_tho, .ref a_aft])), (h_net, .inr (1, [.ref h_ends, .int nc, .int sc, .int br, .int so, .int lo])), (h_ends, .inl (cI, 24, .inl ends)), (h_now, .inr (3, [.int cl, .int ea, .int on]))] sz0) [(h_x, .inr (4, [.ref h_net, .ref h_now, .ref a_don, .ref a_wri, .ref a_per, .ref a_tho, .ref a_aft])), (h_net, .inr (1, [.ref h_ends, .int nc, .int sc, .int br, .int so, .int lo])), (h_ends, .inl (cI, 24, .inl ends)), (h_now, .inr (3, [.int cl, .int ea, .int on]))] R) 1 6 (va_A [(h_x, .inr (4, [.ref h_net, .ref h_now, .ref a_don, .ref a_wri, .ref a_per, .ref a_tho, .ref a_aft])), (h_net, .inr (1, [.ref h_ends, .int nc, .int sc, .int br, .int so, .int lo])), (h_ends, .inl (cI, 24, .inl ends)), (h_now, .inr (3, [.int cl, .int ea, .int on]))] sz0) := by
  refine vx_ofW (cc := cX4_part) (maxL := 2) (ret := (some .int)) (by decide) rfl ?_
  intro p e s m args below meth c s₁ B hml hno hv
  obtain ⟨rfl, hsz, hP, hKK, hD0, hKS, hKZ⟩ := hv
  have hK := hKK.1
  have hx := B.exec
  have hb := B.bytes
  have hr := B.returns
  have hts := atoms_spec (ws := wsX4_part) B.pre
  have hown : s.vm.findClass RX4 = some m.cls := findClass_of_methodNamed B.named
  have hlocks := B.notSynchronized
  subst hsz
  have hD := hD0.self (sz := s.heap.size)
  generalize hAe : va_A [(h_x, .inr (4, [.ref h_net, .ref h_now, .ref a_don, .ref a_wri, .ref a_per, .ref a_tho, .ref a_aft])), (h_net, .inr (1, [.ref h_ends, .int nc, .int sc, .int br, .int so, .int lo])), (h_ends, .inl (cI, 24, .inl ends)), (h_now, .inr (3, [.int cl, .int ea, .int on]))] s.heap.size = A at hD hKZ ⊢
  have hA : ∀ q : Nat, s.heap.size ≤ q → A q := fun q h => by rw [← hAe]; exact Or.inr h
  have hS : va_S A s.heap s.heap [] := va_S.rf
  have hl := lv_entry ([.ref h_x, .int p0]) (n := 2) (Nat.le_of_ble_eq_true rfl)
  rw [lg_entry_eq]
  generalize (lg_sl ([.ref h_x, .int p0]) ++ List.replicate (2 - (lg_sl ([.ref h_x, .int p0])).length) Slot.unset).toArray = ls at hl ⊢
  have hl : lv_has ls 2 [(0, .ref h_x), (1, .int p0)] := hl
  obtain ⟨QQ, hQQ⟩ : ∃ Z, Z = vx_MQ below (QT D (fun u => some (.int u)) A (fun u : (Int32) => [(h_x, .inr (4, [.ref h_net, .ref h_now, .ref a_don, .ref a_wri, .ref a_per, .ref a_tho, .ref a_aft])), (h_net, .inr (1, [.ref h_ends, .int nc, .int sc, .int br, .int so, .int lo])), (h_ends, .inl (cI, 24, .inl ends)), (h_now, .inr (3, [.int cl, .int ea, .int on]))]) R) (XT D A [(h_x, .inr (4, [.ref h_net, .ref h_now, .ref a_don, .ref a_wri, .ref a_per, .ref a_tho, .ref a_aft])), (h_net, .inr (1, [.ref h_ends, .int nc, .int sc, .int br, .int so, .int lo])), (h_ends, .inl (cI, 24, .inl ends)), (h_now, .inr (3, [.int cl, .int ea, .int on]))] R) ([.ref h_x, .int p0] : List Value).toArray s 1 6 A := ⟨_, rfl⟩
  rw [← hQQ]
  obtain ⟨H, locs, hHe, hLe⟩ : ∃ (H : Heap) (locs : List Loc), H = s.heap ∧ locs = [] := ⟨_, _, rfl, rfl⟩
  have hP : va_P D vwCl [(h_x, .inr (4, [.ref h_net, .ref h_now, .ref a_don, .ref a_wri, .ref a_per, .ref a_tho, .ref a_aft])), (h_net, .inr (1, [.ref h_ends, .int nc, .int sc, .int br, .int so, .int lo])), (h_ends, .inl (cI, 24, .inl ends)), (h_now, .inr (3, [.int cl, .int ea, .int on]))] H := by rw [hHe]; exact hP
  have hS : va_S A s.heap H locs := by rw [hHe, hLe]; exact hS
  have hW0 : ∀ QQ : State → Prop, W p l e (headSpec wsX4_part rmX4_part).room s m (([.ref h_x, .int p0] : List Value).toArray) below meth c H locs 0 0 QQ (F0 m 0 ls []) → W p l e (headSpec wsX4_part rmX4_part).room s m (([.ref h_x, .int p0] : List Value).toArray) below meth c s.heap [] 0 0 QQ (F0 m 0 ls []) := by rw [hHe, hLe]; exact fun _ h => h
  refine hW0 _ ?_
  clear hW0
  unfold fX4_part at h
  refine lv_aload_n hx hb dX4_part_0 rfl (lv_at hl 0 rfl) ?_
  refine lv_iload_n hx hb dX4_part_1 rfl (lv_at hl 1 rfl) ?_
  obtain ⟨R2, hq1, hx1, hk1⟩ := bx0_r h
  refine zz_xV (As := [.int p0]) (wr := [(h_ends, .inl (cI, 24, .inl ends)), (h_now, .inr (3, [.int cl, .int ea, .int on]))]) (w1 := fun u : Unit => [(h_x, .inr (4, [.ref h_net, .ref h_now, .ref a_don, .ref a_wri, .ref a_per, .ref a_tho, .ref a_aft])), (h_net, .inr (1, [.ref h_ends, .int nc, .int sc, .int br, .int so, .int lo]))]) (wt' := fun u : Unit => [(h_x, .inr (4, [.ref h_net, .ref h_now, .ref a_don, .ref a_wri, .ref a_per, .ref a_tho, .ref a_aft])), (h_net, .inr (1, [.ref h_ends, .int nc, .int sc, .int br, .int so, .int lo])), (h_ends, .inl (cI, 24, .inl ends)), (h_now, .inr (3, [.int cl, .int ea, .int on]))]) (wc := [(h_x, .inr (4, [.ref h_net, .ref h_now, .ref a_don, .ref a_wri, .ref a_per, .ref a_tho, .ref a_aft])), (h_net, .inr (1, [.ref h_ends, .int nc, .int sc, .int br, .int so, .int lo]))]) (rv := fun _ => none) ⟨hx, hb, hml, hown, hts⟩ (kX4_requireNode l hl0 D cI cZ cL H.size h_x h_now a_don a_wri a_per a_tho a_aft h_net h_ends nc sc br so lo p0 N hq1) (cwV 1 hts gX4_part_X4_requireNode rfl rfl rfl (by decide +kernel) ⟨Nat.le_of_ble_eq_true rfl, Nat.le_of_ble_eq_true rfl⟩) hP hD hS hA hKK hKS hKZ [0, 1] [2, 3] [2, 3, 0, 1] rfl rfl (by decide) (by decide) (fun _ => rfl) rfl (by decide) (by decide) (va_recv hK hP (ci := 4) (q0 := 0) rfl rfl) rfl hl.1 rfl (Nat.le_of_ble_eq_true rfl) dX4_part_2 ⟨Nat.le_of_ble_eq_true rfl, Nat.le_of_ble_eq_true rfl⟩ (fun E ce q9 H locs hE hP hD hS h1 h2 h3 => ?_) (fun u H locs hu hP hD hS => ?_)
  · have hE2 := hx1 E hE
    subst hE2
    rw [hQQ]
    exact vx_out (fun x hx => (hno x hx).elim) hlocks h1 h2 h3 (fun t ht hvm => zz_XT hP hD hS (by rw [ht]; exact Nat.le_refl _) (fun q _ => by rw [ht])) hS.2.2 (Nat.le_of_ble_eq_true rfl) (Nat.le_of_ble_eq_true rfl)
  · have h := hk1 _ hu
    have hP : va_P D vwCl [(h_x, .inr (4, [.ref h_net, .ref h_now, .ref a_don, .ref a_wri, .ref a_per, .ref a_tho, .ref a_aft])), (h_net, .inr (1, [.ref h_ends, .int nc, .int sc, .int br, .int so, .int lo])), (h_ends, .inl (cI, 24, .inl ends)), (h_now, .inr (3, [.int cl, .int ea, .int on]))] H := hP
    have hD : va_D A [(h_x, .inr (4, [.ref h_net, .ref h_now, .ref a_don, .ref a_wri, .ref a_per, .ref a_tho, .ref a_aft])), (h_net, .inr (1, [.ref h_ends, .int nc, .int sc, .int br, .int so, .int lo])), (h_ends, .inl (cI, 24, .inl ends)), (h_now, .inr (3, [.int cl, .int ea, .int on]))] := hD
    show W p l e _ s m _ below meth c H locs _ _ QQ (F0 m 5 ls ([]))
    refine lv_aload_n hx hb dX4_part_5 rfl (lv_at hl 0 rfl) ?_
    refine va_get (D := D) (ci := 4) (v := .ref h_net) (C := RX4) (T := TX4) (N := 7) hx hb hts inX4_part_X4 hown hK hP 0 rfl rfl 0 (by decide) (hts _ lkX4_part_0) (fun _ h9 => h9) rfl dX4_part_6 ?_
    refine lv_iconst (v := 1) hx hb dX4_part_9 (by decide) ?_
    refine lv_iload_n hx hb dX4_part_10 rfl (lv_at hl 1 rfl) ?_
    refine lv_ishl hx hb dX4_part_11 ?_
    refine lv_aload_n hx hb dX4_part_12 rfl (lv_at hl 0 rfl) ?_
    refine va_get (D := D) (ci := 4) (v := .ref h_now) (C := RX4) (T := TX4) (N := 7) hx hb hts inX4_part_X4 hown hK hP 0 rfl rfl 1 (by decide) (hts _ lkX4_part_1) (fun _ h9 => h9) rfl dX4_part_13 ?_
    obtain ⟨v3, hq4, h⟩ := bd1_e h
    refine zz_cV (As := [.int ((1 : Int32) <<< (p0 &&& 31)), .ref h_now]) ⟨hx, hb, hml, hown, hts⟩ (kX1_connectedWith l D cI cZ cL h_net h_ends h_now nc sc br so lo ends cl ea on ((1 : Int32) <<< (p0 &&& 31)) N hq4) (cwV 2 hts gX4_part_X1_connectedWith rfl rfl rfl (by decide +kernel) ⟨Nat.le_of_ble_eq_true rfl, Nat.le_of_ble_eq_true rfl⟩) (hP.sub (ws' := [(h_net, .inr (1, [.ref h_ends, .int nc, .int sc, .int br, .int so, .int lo])), (h_ends, .inl (cI, 24, .inl ends)), (h_now, .inr (3, [.int cl, .int ea, .int on]))]) [1, 2, 3] rfl) hKK (va_recv hK hP (ci := 1) (q0 := 1) rfl rfl) rfl hl.1 rfl (Nat.le_of_ble_eq_true rfl) dX4_part_16 ⟨Nat.le_of_ble_eq_true rfl, Nat.le_of_ble_eq_true rfl⟩ ?_
    cases h
    rw [hQQ]
    refine vx_ret ?_
    refine W.widen (k := 1) (n := 6) (Nat.le_of_ble_eq_true rfl) (Nat.le_of_ble_eq_true rfl) ?_
    exact W.iret hx hb hr (fun t ht hW => ⟨_, rfl, rfl, by rw [ht]; exact hP, hD, hS.F ht⟩) hS.2.2 dX4_part_19

def fX4_toLive (N : Nat) (nc : Int32) (sc : Int32) (br : Int32) (so : Int32) (lo : Int32) (ends : Nat → Int32) (cl : Int32) (ea : Int32) (on : Int32) (p0 : Int32) : Option (String ⊕ ((Int32))) :=
  bx0 (fX4_requireNode N nc sc br so lo p0) (bd1 (fX1_connectedWith N nc sc br so lo ends cl ea on ((1 : Int32) <<< (p0 &&& 31))) (fun v3 => it2 (fun g22_7 (x5 : Int32) (x6 : Int32) => bd1 (fX1_nodeCount N nc sc br so lo) (fun v9 => (if v9 ≤ x5 then some (.inl "java/util/NoSuchElementException") else (if (x6 &&& on) = 0 then bd1 (fX1_withNeighbours N nc sc br so lo ends x6) (fun v13 => bd1 (fX1_connectedWith N nc sc br so lo ends cl ea on v13) (fun v15 => g22_7 (x5 + 1) v15)) else some (.inr x5))))) N 0 v3))
set_option maxRecDepth 100000 in
theorem inX4_toLive_X3 : ∀ w ∈ wsX30, w ∈ wsX4_toLive := by decide +kernel
set_option maxRecDepth 100000 in
theorem inX4_toLive_X4 : ∀ w ∈ wsX40, w ∈ wsX4_toLive := by decide +kernel
set_option maxRecDepth 100000 in
theorem lkX4_toLive_0 : (.fieldLink RX4 10 "Switchlog" "net" "LSwitchlog$Net;" : Cond) ∈ wsX4_toLive := by decide +kernel
set_option maxRecDepth 100000 in
theorem lkX4_toLive_1 : (.fieldLink RX4 19 "Switchlog" "now" "LSwitchlog$State;" : Cond) ∈ wsX4_toLive := by decide +kernel
set_option maxRecDepth 100000 in
theorem lkX4_toLive_2 : (.classLink RX4 221 "java/util/NoSuchElementException" : Cond) ∈ wsX4_toLive := by decide +kernel
set_option maxRecDepth 100000 in
theorem lkX4_toLive_3 : (.initialized "java/util/NoSuchElementException" : Cond) ∈ wsX4_toLive := by decide +kernel
set_option maxRecDepth 100000 in
theorem atX4_toLive_225 : ∀ w ∈ (vx_atS RX4 225 "java/util/NoSuchElementException" ["java/lang/RuntimeException", "java/lang/Exception"]).filter goodWord, w ∈ wsX4_toLive := by decide +kernel
abbrev rmX4_toLive : Room := { frames := 7, cells := 2, slots := 12, locals := 103 }
set_option maxHeartbeats 4000000 in
set_option maxRecDepth 100000 in
theorem kX4_toLive (l : Launch) (hl0 : l.stackTraces = false) (D : va_G) (cI cZ cL : ClassId) (sz0 : Nat) (h_x a_don a_wri a_per a_tho a_aft h_net h_ends h_now : Nat) (nc : Int32) (sc : Int32) (br : Int32) (so : Int32) (lo : Int32) (ends : Nat → Int32) (cl : Int32) (ea : Int32) (on : Int32) (p0 : Int32) (N : Nat) {R : String ⊕ ((Int32))} (h : fX4_toLive N nc sc br so lo ends cl ea on p0 = some R) : vx_Met l yX4_toLive wsX4_toLive rmX4_toLive (PT D cI cZ cL [.ref h_x, .int p0] [(h_x, .inr (4, [.ref h_net, .ref h_now, .ref a_don, .ref a_wri, .ref a_per, .ref a_tho, .ref a_aft])), (h_net, .inr (1, [.ref h_ends, .int nc, .int sc, .int br, .int so, .int lo])), (h_ends, .inl (cI, 24, .inl ends)), (h_now, .inr (3, [.int cl, .int ea, .int on]))] sz0) (QT D (fun u => some (.int u)) (va_A [(h_x, .inr (4, [.ref h_net, .ref h_now, .ref a_don, .ref a_wri, .ref a_per, .ref a_tho, .ref a_aft])), (h_net, .inr (1, [.ref h_ends, .int nc, .int sc, .int br, .int so, .int lo])), (h_ends, .inl (cI, 24, .inl ends)), (h_now, .inr (3, [.int cl, .int ea, .int on]))] sz0) (fun u : (Int32) => [(h_x, .inr (4, [.ref h_net, .ref h_now, .ref a_don, .ref a_wri, .ref a_per, .ref a_tho, .ref a_aft])), (h_net, .inr (1, [.ref h_ends, .int nc, .int sc, .int br, .int so, .int lo])), (h_ends, .inl (cI, 24, .inl ends)), (h_now, .inr (3, [.int cl, .int ea, .int on]))]) R) (XT D (va_A [(h_x, .inr (4, [.ref h_net, .ref h_now, .ref a_don, .ref a_wri, .ref a_per, .ref a_tho, .ref a_aft])), (h_net, .inr (1, [.ref h_ends, .int nc, .int sc, .int br, .int so, .int lo])), (h_ends, .inl (cI, 24, .inl ends)), (h_now, .inr (3, [.int cl, .int ea, .int on]))] sz0) [(h_x, .inr (4, [.ref h_net, .ref h_now, .ref a_don, .ref a_wri, .ref a_per, .ref a_tho, .ref a_aft])), (h_net, .inr (1, [.ref h_ends, .int nc, .int sc, .int br, .int so, .int lo])), (h_ends, .inl (cI, 24, .inl ends)), (h_now, .inr (3, [.int cl, .int ea, .int on]))] R) 2 12 (va_A [(h_x, .inr (4, [.ref h_net, .ref h_now, .ref a_don, .ref a_wri, .ref a_per, .ref a_tho, .ref a_aft])), (h_net, .inr (1, [.ref h_ends, .int nc, .int sc, .int br, .int so, .int lo])), (h_ends, .inl (cI, 24, .inl ends)), (h_now, .inr (3, [.int cl, .int ea, .int on]))] sz0) := by
  refine vx_ofW (cc := cX4_toLive) (maxL := 4) (ret := (some .int)) (by decide) rfl ?_
  intro p e s m args below meth c s₁ B hml hno hv
  obtain ⟨rfl, hsz, hP, hKK, hD0, hKS, hKZ⟩ := hv
  have hK := hKK.1
  have hx := B.exec
  have hb := B.bytes
  have hr := B.returns
  have hts := atoms_spec (ws := wsX4_toLive) B.pre
  have hown : s.vm.findClass RX4 = some m.cls := findClass_of_methodNamed B.named
  have hlocks := B.notSynchronized
  subst hsz
  have hD := hD0.self (sz := s.heap.size)
  generalize hAe : va_A [(h_x, .inr (4, [.ref h_net, .ref h_now, .ref a_don, .ref a_wri, .ref a_per, .ref a_tho, .ref a_aft])), (h_net, .inr (1, [.ref h_ends, .int nc, .int sc, .int br, .int so, .int lo])), (h_ends, .inl (cI, 24, .inl ends)), (h_now, .inr (3, [.int cl, .int ea, .int on]))] s.heap.size = A at hD hKZ ⊢
  have hA : ∀ q : Nat, s.heap.size ≤ q → A q := fun q h => by rw [← hAe]; exact Or.inr h
  have hS : va_S A s.heap s.heap [] := va_S.rf
  have hl := lv_entry ([.ref h_x, .int p0]) (n := 4) (Nat.le_of_ble_eq_true rfl)
  rw [lg_entry_eq]
  generalize (lg_sl ([.ref h_x, .int p0]) ++ List.replicate (4 - (lg_sl ([.ref h_x, .int p0])).length) Slot.unset).toArray = ls at hl ⊢
  have hl : lv_has ls 4 [(0, .ref h_x), (1, .int p0)] := hl
  obtain ⟨QQ, hQQ⟩ : ∃ Z, Z = vx_MQ below (QT D (fun u => some (.int u)) A (fun u : (Int32) => [(h_x, .inr (4, [.ref h_net, .ref h_now, .ref a_don, .ref a_wri, .ref a_per, .ref a_tho, .ref a_aft])), (h_net, .inr (1, [.ref h_ends, .int nc, .int sc, .int br, .int so, .int lo])), (h_ends, .inl (cI, 24, .inl ends)), (h_now, .inr (3, [.int cl, .int ea, .int on]))]) R) (XT D A [(h_x, .inr (4, [.ref h_net, .ref h_now, .ref a_don, .ref a_wri, .ref a_per, .ref a_tho, .ref a_aft])), (h_net, .inr (1, [.ref h_ends, .int nc, .int sc, .int br, .int so, .int lo])), (h_ends, .inl (cI, 24, .inl ends)), (h_now, .inr (3, [.int cl, .int ea, .int on]))] R) ([.ref h_x, .int p0] : List Value).toArray s 2 12 A := ⟨_, rfl⟩
  rw [← hQQ]
  obtain ⟨H, locs, hHe, hLe⟩ : ∃ (H : Heap) (locs : List Loc), H = s.heap ∧ locs = [] := ⟨_, _, rfl, rfl⟩
  have hP : va_P D vwCl [(h_x, .inr (4, [.ref h_net, .ref h_now, .ref a_don, .ref a_wri, .ref a_per, .ref a_tho, .ref a_aft])), (h_net, .inr (1, [.ref h_ends, .int nc, .int sc, .int br, .int so, .int lo])), (h_ends, .inl (cI, 24, .inl ends)), (h_now, .inr (3, [.int cl, .int ea, .int on]))] H := by rw [hHe]; exact hP
  have hS : va_S A s.heap H locs := by rw [hHe, hLe]; exact hS
  have hW0 : ∀ QQ : State → Prop, W p l e (headSpec wsX4_toLive rmX4_toLive).room s m (([.ref h_x, .int p0] : List Value).toArray) below meth c H locs 0 0 QQ (F0 m 0 ls []) → W p l e (headSpec wsX4_toLive rmX4_toLive).room s m (([.ref h_x, .int p0] : List Value).toArray) below meth c s.heap [] 0 0 QQ (F0 m 0 ls []) := by rw [hHe, hLe]; exact fun _ h => h
  refine hW0 _ ?_
  clear hW0
  unfold fX4_toLive at h
  refine lv_aload_n hx hb dX4_toLive_0 rfl (lv_at hl 0 rfl) ?_
  refine lv_iload_n hx hb dX4_toLive_1 rfl (lv_at hl 1 rfl) ?_
  obtain ⟨R2, hq1, hx1, hk1⟩ := bx0_r h
  refine zz_xV (As := [.int p0]) (wr := [(h_ends, .inl (cI, 24, .inl ends)), (h_now, .inr (3, [.int cl, .int ea, .int on]))]) (w1 := fun u : Unit => [(h_x, .inr (4, [.ref h_net, .ref h_now, .ref a_don, .ref a_wri, .ref a_per, .ref a_tho, .ref a_aft])), (h_net, .inr (1, [.ref h_ends, .int nc, .int sc, .int br, .int so, .int lo]))]) (wt' := fun u : Unit => [(h_x, .inr (4, [.ref h_net, .ref h_now, .ref a_don, .ref a_wri, .ref a_per, .ref a_tho, .ref a_aft])), (h_net, .inr (1, [.ref h_ends, .int nc, .int sc, .int br, .int so, .int lo])), (h_ends, .inl (cI, 24, .inl ends)), (h_now, .inr (3, [.int cl, .int ea, .int on]))]) (wc := [(h_x, .inr (4, [.ref h_net, .ref h_now, .ref a_don, .ref a_wri, .ref a_per, .ref a_tho, .ref a_aft])), (h_net, .inr (1, [.ref h_ends, .int nc, .int sc, .int br, .int so, .int lo]))]) (rv := fun _ => none) ⟨hx, hb, hml, hown, hts⟩ (kX4_requireNode l hl0 D cI cZ cL H.size h_x h_now a_don a_wri a_per a_tho a_aft h_net h_ends nc sc br so lo p0 N hq1) (cwV 1 hts gX4_toLive_X4_requireNode rfl rfl rfl (by decide +kernel) ⟨Nat.le_of_ble_eq_true rfl, Nat.le_of_ble_eq_true rfl⟩) hP hD hS hA hKK hKS hKZ [0, 1] [2, 3] [2, 3, 0, 1] rfl rfl (by decide) (by decide) (fun _ => rfl) rfl (by decide) (by decide) (va_recv hK hP (ci := 4) (q0 := 0) rfl rfl) rfl hl.1 rfl (Nat.le_of_ble_eq_true rfl) dX4_toLive_2 ⟨Nat.le_of_ble_eq_true rfl, Nat.le_of_ble_eq_true rfl⟩ (fun E ce q9 H locs hE hP hD hS h1 h2 h3 => ?_) (fun u H locs hu hP hD hS => ?_)
  · have hE2 := hx1 E hE
    subst hE2
    rw [hQQ]
    exact vx_out (fun x hx => (hno x hx).elim) hlocks h1 h2 h3 (fun t ht hvm => zz_XT hP hD hS (by rw [ht]; exact Nat.le_refl _) (fun q _ => by rw [ht])) hS.2.2 (Nat.le_of_ble_eq_true rfl) (Nat.le_of_ble_eq_true rfl)
  · have h := hk1 _ hu
    have hP : va_P D vwCl [(h_x, .inr (4, [.ref h_net, .ref h_now, .ref a_don, .ref a_wri, .ref a_per, .ref a_tho, .ref a_aft])), (h_net, .inr (1, [.ref h_ends, .int nc, .int sc, .int br, .int so, .int lo])), (h_ends, .inl (cI, 24, .inl ends)), (h_now, .inr (3, [.int cl, .int ea, .int on]))] H := hP
    have hD : va_D A [(h_x, .inr (4, [.ref h_net, .ref h_now, .ref a_don, .ref a_wri, .ref a_per, .ref a_tho, .ref a_aft])), (h_net, .inr (1, [.ref h_ends, .int nc, .int sc, .int br, .int so, .int lo])), (h_ends, .inl (cI, 24, .inl ends)), (h_now, .inr (3, [.int cl, .int ea, .int on]))] := hD
    show W p l e _ s m _ below meth c H locs _ _ QQ (F0 m 5 ls ([]))
    refine lv_aload_n hx hb dX4_toLive_5 rfl (lv_at hl 0 rfl) ?_
    refine va_get (D := D) (ci := 4) (v := .ref h_net) (C := RX4) (T := TX4) (N := 7) hx hb hts inX4_toLive_X4 hown hK hP 0 rfl rfl 0 (by decide) (hts _ lkX4_toLive_0) (fun _ h9 => h9) rfl dX4_toLive_6 ?_
    refine lv_iconst (v := 1) hx hb dX4_toLive_9 (by decide) ?_
    refine lv_iload_n hx hb dX4_toLive_10 rfl (lv_at hl 1 rfl) ?_
    refine lv_ishl hx hb dX4_toLive_11 ?_
    refine lv_aload_n hx hb dX4_toLive_12 rfl (lv_at hl 0 rfl) ?_
    refine va_get (D := D) (ci := 4) (v := .ref h_now) (C := RX4) (T := TX4) (N := 7) hx hb hts inX4_toLive_X4 hown hK hP 0 rfl rfl 1 (by decide) (hts _ lkX4_toLive_1) (fun _ h9 => h9) rfl dX4_toLive_13 ?_
    obtain ⟨v3, hq4, h⟩ := bd1_e h
    refine zz_cV (As := [.int ((1 : Int32) <<< (p0 &&& 31)), .ref h_now]) ⟨hx, hb, hml, hown, hts⟩ (kX1_connectedWith l D cI cZ cL h_net h_ends h_now nc sc br so lo ends cl ea on ((1 : Int32) <<< (p0 &&& 31)) N hq4) (cwV 2 hts gX4_toLive_X1_connectedWith rfl rfl rfl (by decide +kernel) ⟨Nat.le_of_ble_eq_true rfl, Nat.le_of_ble_eq_true rfl⟩) (hP.sub (ws' := [(h_net, .inr (1, [.ref h_ends, .int nc, .int sc, .int br, .int so, .int lo])), (h_ends, .inl (cI, 24, .inl ends)), (h_now, .inr (3, [.int cl, .int ea, .int on]))]) [1, 2, 3] rfl) hKK (va_recv hK hP (ci := 1) (q0 := 1) rfl rfl) rfl hl.1 rfl (Nat.le_of_ble_eq_true rfl) dX4_toLive_16 ⟨Nat.le_of_ble_eq_true rfl, Nat.le_of_ble_eq_true rfl⟩ ?_
    refine lv_istore_n (lv' := [(2, .int v3), (0, .ref h_x), (1, .int p0)]) hx hb dX4_toLive_19 rfl hl (by decide) rfl (fun ls hl => ?_)
    refine lv_iconst (v := 0) hx hb dX4_toLive_20 (by decide) ?_
    refine lv_istore_n (lv' := [(3, .int 0), (2, .int v3), (0, .ref h_x), (1, .int p0)]) hx hb dX4_toLive_21 rfl hl (by decide) rfl (fun ls hl => ?_)
    refine it2_e (fun (x5 : Int32) (x6 : Int32) => ∀ (H : Heap) (locs : List Loc) (ls : Array Slot), va_P D vwCl [(h_x, .inr (4, [.ref h_net, .ref h_now, .ref a_don, .ref a_wri, .ref a_per, .ref a_tho, .ref a_aft])), (h_net, .inr (1, [.ref h_ends, .int nc, .int sc, .int br, .int so, .int lo])), (h_ends, .inl (cI, 24, .inl ends)), (h_now, .inr (3, [.int cl, .int ea, .int on]))] H → va_D A [(h_x, .inr (4, [.ref h_net, .ref h_now, .ref a_don, .ref a_wri, .ref a_per, .ref a_tho, .ref a_aft])), (h_net, .inr (1, [.ref h_ends, .int nc, .int sc, .int br, .int so, .int lo])), (h_ends, .inl (cI, 24, .inl ends)), (h_now, .inr (3, [.int cl, .int ea, .int on]))] → va_S A s.heap H locs → lv_has ls 4 [(3, .int x5), (2, .int x6), (0, .ref h_x), (1, .int p0)] → W p l e (headSpec wsX4_toLive rmX4_toLive).room s m (([.ref h_x, .int p0] : List Value).toArray) below meth c H locs 1 6 QQ (F0 m 22 ls [])) (fun g22_7 hg22_8 x5 x6 h H locs ls hP hD hS hl => ?_) N 0 v3 h H locs ls hP hD hS (lv_sub hl [0, 1, 2, 3] rfl)
    refine lv_iload_n hx hb dX4_toLive_22 rfl (lv_at hl 0 rfl) ?_
    refine lv_aload_n hx hb dX4_toLive_23 rfl (lv_at hl 2 rfl) ?_
    refine va_get (D := D) (ci := 4) (v := .ref h_net) (C := RX4) (T := TX4) (N := 7) hx hb hts inX4_toLive_X4 hown hK hP 0 rfl rfl 0 (by decide) (hts _ lkX4_toLive_0) (fun _ h9 => h9) rfl dX4_toLive_24 ?_
    obtain ⟨v9, hq10, h⟩ := bd1_e h
    refine zz_cV (As := []) ⟨hx, hb, hml, hown, hts⟩ (kX1_nodeCount l D cI cZ cL h_net h_ends nc sc br so lo N hq10) (cwV 0 hts gX4_toLive_X1_nodeCount rfl rfl rfl (by decide +kernel) ⟨Nat.le_of_ble_eq_true rfl, Nat.le_of_ble_eq_true rfl⟩) (hP.sub (ws' := [(h_net, .inr (1, [.ref h_ends, .int nc, .int sc, .int br, .int so, .int lo]))]) [1] rfl) hKK (va_recv hK hP (ci := 1) (q0 := 1) rfl rfl) rfl hl.1 rfl (Nat.le_of_ble_eq_true rfl) dX4_toLive_27 ⟨Nat.le_of_ble_eq_true rfl, Nat.le_of_ble_eq_true rfl⟩ ?_
    refine lv_icmp_ge (tgt := 73) hx hb dX4_toLive_30 (by decide) (fun c11 => ?_) (fun c11 => ?_)
    · have h := it_t h c11
      cases h
      obtain ⟨sa9, hsa9⟩ := hKS.1 (223, "no way leads to a source that is on") (List.mem_of_getElem? (i := 15) rfl)
      rw [hQQ]
      exact vx_throwS hx hb hl0 (A := A) (own := RX4) (cls := "java/util/NoSuchElementException") (text := "no way leads to a source that is on") (names := ["java/lang/RuntimeException", "java/lang/Exception"]) (ik := 221) (is := 223) (ic := 225) hown (by decide +kernel) (by decide +kernel) (hts _ lkX4_toLive_2) (hts _ lkX4_toLive_3) hsa9 (hKS.hat (fun w h => hts w (atX4_toLive_225 w h)) nb_RX4_225) (go_RX4_225 221) hKZ.1 hKZ.2 hS (hl.1.trans hml.symm) dX4_toLive_73 dX4_toLive_76 dX4_toLive_77 dX4_toLive_79 dX4_toLive_82 (fun x hx => (hno x hx).elim) (Nat.le_of_ble_eq_true rfl) (Nat.le_of_ble_eq_true rfl) (Nat.le_of_ble_eq_true rfl) (Nat.le_of_ble_eq_true rfl) hlocks (fun t ht hz hq => zz_XT hP hD hS hz hq) hS.2.2 (Nat.le_of_ble_eq_true rfl) (Nat.le_of_ble_eq_true rfl)
    · have h := it_f h c11
      refine lv_iload_n hx hb dX4_toLive_33 rfl (lv_at hl 1 rfl) ?_
      refine lv_aload_n hx hb dX4_toLive_34 rfl (lv_at hl 2 rfl) ?_
      refine va_get (D := D) (ci := 4) (v := .ref h_now) (C := RX4) (T := TX4) (N := 7) hx hb hts inX4_toLive_X4 hown hK hP 0 rfl rfl 1 (by decide) (hts _ lkX4_toLive_1) (fun _ h9 => h9) rfl dX4_toLive_35 ?_
      refine va_getN (D := D) (ci := 3) (v := .int on) (C := RX3) (T := TX3) (N := 3) hx hb hts inX4_toLive_X3 hown hK hP 3 rfl rfl 2 (by decide) (va_Nw.use rfl hKK.2.2.2.2.1) (fun _ h9 => h9) rfl dX4_toLive_38 ?_
      refine lv_iand hx hb dX4_toLive_41 ?_
      refine lv_if_eq (tgt := 47) hx hb dX4_toLive_42 (by decide) (fun c12 => ?_) (fun c12 => ?_)
      · have h := it_t h c12
        refine lv_aload_n hx hb dX4_toLive_47 rfl (lv_at hl 2 rfl) ?_
        refine va_get (D := D) (ci := 4) (v := .ref h_net) (C := RX4) (T := TX4) (N := 7) hx hb hts inX4_toLive_X4 hown hK hP 0 rfl rfl 0 (by decide) (hts _ lkX4_toLive_0) (fun _ h9 => h9) rfl dX4_toLive_48 ?_
        refine lv_aload_n hx hb dX4_toLive_51 rfl (lv_at hl 2 rfl) ?_
        refine va_get (D := D) (ci := 4) (v := .ref h_net) (C := RX4) (T := TX4) (N := 7) hx hb hts inX4_toLive_X4 hown hK hP 0 rfl rfl 0 (by decide) (hts _ lkX4_toLive_0) (fun _ h9 => h9) rfl dX4_toLive_52 ?_
        refine lv_iload_n hx hb dX4_toLive_55 rfl (lv_at hl 1 rfl) ?_
        obtain ⟨v13, hq14, h⟩ := bd1_e h
        refine zz_cV (As := [.int x6]) ⟨hx, hb, hml, hown, hts⟩ (kX1_withNeighbours l D cI cZ cL h_net h_ends nc sc br so lo ends x6 N hq14) (cwV 1 hts gX4_toLive_X1_withNeighbours rfl rfl rfl (by decide +kernel) ⟨Nat.le_of_ble_eq_true rfl, Nat.le_of_ble_eq_true rfl⟩) (hP.sub (ws' := [(h_net, .inr (1, [.ref h_ends, .int nc, .int sc, .int br, .int so, .int lo])), (h_ends, .inl (cI, 24, .inl ends))]) [1, 2] rfl) hKK (va_recv hK hP (ci := 1) (q0 := 1) rfl rfl) rfl hl.1 rfl (Nat.le_of_ble_eq_true rfl) dX4_toLive_56 ⟨Nat.le_of_ble_eq_true rfl, Nat.le_of_ble_eq_true rfl⟩ ?_
        refine lv_aload_n hx hb dX4_toLive_59 rfl (lv_at hl 2 rfl) ?_
        refine va_get (D := D) (ci := 4) (v := .ref h_now) (C := RX4) (T := TX4) (N := 7) hx hb hts inX4_toLive_X4 hown hK hP 0 rfl rfl 1 (by decide) (hts _ lkX4_toLive_1) (fun _ h9 => h9) rfl dX4_toLive_60 ?_
        obtain ⟨v15, hq16, h⟩ := bd1_e h
        refine zz_cV (As := [.int v13, .ref h_now]) ⟨hx, hb, hml, hown, hts⟩ (kX1_connectedWith l D cI cZ cL h_net h_ends h_now nc sc br so lo ends cl ea on v13 N hq16) (cwV 2 hts gX4_toLive_X1_connectedWith rfl rfl rfl (by decide +kernel) ⟨Nat.le_of_ble_eq_true rfl, Nat.le_of_ble_eq_true rfl⟩) (hP.sub (ws' := [(h_net, .inr (1, [.ref h_ends, .int nc, .int sc, .int br, .int so, .int lo])), (h_ends, .inl (cI, 24, .inl ends)), (h_now, .inr (3, [.int cl, .int ea, .int on]))]) [1, 2, 3] rfl) hKK (va_recv hK hP (ci := 1) (q0 := 1) rfl rfl) rfl hl.1 rfl (Nat.le_of_ble_eq_true rfl) dX4_toLive_63 ⟨Nat.le_of_ble_eq_true rfl, Nat.le_of_ble_eq_true rfl⟩ ?_
        refine lv_istore_n (lv' := [(2, .int v15), (3, .int x5), (0, .ref h_x), (1, .int p0)]) hx hb dX4_toLive_66 rfl hl (by decide) rfl (fun ls hl => ?_)
        refine lv_iinc (v := x5 + 1) (lv' := [(3, .int (x5 + 1)), (2, .int v15), (0, .ref h_x), (1, .int p0)]) hx hb dX4_toLive_67 hl (k := 1) rfl rfl (by decide) rfl (fun ls hl => ?_)
        refine lv_goto (tgt := 22) hx hb dX4_toLive_70 (by decide) ?_
        exact hg22_8 (x5 + 1) v15 h H locs ls hP hD hS (lv_sub hl [0, 1, 2, 3] rfl)
      · have h := it_f h c12
        refine lv_iload_n hx hb dX4_toLive_45 rfl (lv_at hl 0 rfl) ?_
        cases h
        rw [hQQ]
        refine vx_ret ?_
        refine W.widen (k := 2) (n := 12) (Nat.le_of_ble_eq_true rfl) (Nat.le_of_ble_eq_true rfl) ?_
        exact W.iret hx hb hr (fun t ht hW => ⟨_, rfl, rfl, by rw [ht]; exact hP, hD, hS.F ht⟩) hS.2.2 dX4_toLive_46
