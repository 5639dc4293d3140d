def fL_addNode (N : Nat) (nc : Int32) (sc : Int32) (br : Int32) (so : Int32) (lo : Int32) (p0 : Int32) (p1 : Int32) : Option ((Int32) × (Int32) × (Int32) × (Int32)) :=
  bh4 (fX4_addNode N nc sc br so lo p0 p1) (fun E => (if E = "java/lang/IllegalStateException" then some ((-73), nc, so, lo) else none)) (fun v w0 w1 w2 => some (v, w0, w1, w2))
set_option maxRecDepth 100000 in
theorem lkL_addNode_0 : (.classLink RL 14 "java/lang/IllegalStateException" : Cond) ∈ wsL_addNode := by decide +kernel
abbrev rmL_addNode : Room := { frames := 7, cells := 1, slots := 6, locals := 104 }
set_option maxHeartbeats 4000000 in
set_option maxRecDepth 100000 in
theorem kL_addNode (l : Launch) (hl0 : l.stackTraces = false) (D : va_G) (cI cZ cL : ClassId) (sz0 : Nat) (h_x a_now a_don a_wri a_per a_tho a_aft h_net a_ends : Nat) (nc : Int32) (sc : Int32) (br : Int32) (so : Int32) (lo : Int32) (p0 : Int32) (p1 : Int32) (N : Nat) {r : Int32} {r_0 : Int32} {r_1 : Int32} {r_2 : Int32} (h : fL_addNode N nc sc br so lo p0 p1 = some (r, r_0, r_1, r_2)) : Met l yL_addNode wsL_addNode rmL_addNode (PH D cI cZ cL [.ref h_x, .int p0, .int p1] [(h_x, .inr (4, [.ref h_net, .ref a_now, .ref a_don, .ref a_wri, .ref a_per, .ref a_tho, .ref a_aft])), (h_net, .inr (1, [.ref a_ends, .int nc, .int sc, .int br, .int so, .int lo]))] sz0) (QM D (some (.int r)) (va_A [(h_x, .inr (4, [.ref h_net, .ref a_now, .ref a_don, .ref a_wri, .ref a_per, .ref a_tho, .ref a_aft])), (h_net, .inr (1, [.ref a_ends, .int nc, .int sc, .int br, .int so, .int lo]))] sz0) [(h_x, .inr (4, [.ref h_net, .ref a_now, .ref a_don, .ref a_wri, .ref a_per, .ref a_tho, .ref a_aft])), (h_net, .inr (1, [.ref a_ends, .int r_0, .int sc, .int br, .int r_1, .int r_2]))]) 1 6 (va_A [(h_x, .inr (4, [.ref h_net, .ref a_now, .ref a_don, .ref a_wri, .ref a_per, .ref a_tho, .ref a_aft])), (h_net, .inr (1, [.ref a_ends, .int nc, .int sc, .int br, .int so, .int lo]))] sz0) := by
  refine zz_ofWH (cc := cL_addNode) (maxL := 5) (ret := (some .int)) (hh := [(0, 7, 10, 14)]) (by decide) rfl ?_
  intro p e s m args below meth c s₁ B hml hv
  obtain ⟨rfl, hsz, hP, hKK, hD0, hKS, hKZ, hKX⟩ := hv
  have hK := hKK.1
  have hx := B.exec
  have hb := B.bytes
  have hr := B.returns
  have hts := atoms_spec (ws := wsL_addNode) B.pre
  have hown : s.vm.findClass RL = some m.cls := findClass_of_methodNamed B.named
  have hlocks := B.notSynchronized
  have htab : c.exceptionTable.toList = [⟨0, 7, 10, 14⟩] := (vx_table (x := yL_addNode) B (hts (.codeWith yL_addNode cL_addNode 5 (some .int) [(0, 7, 10, 14)]) List.mem_cons_self)).trans rfl
  subst hsz
  have hD := hD0.self (sz := s.heap.size)
  generalize hAe : va_A [(h_x, .inr (4, [.ref h_net, .ref a_now, .ref a_don, .ref a_wri, .ref a_per, .ref a_tho, .ref a_aft])), (h_net, .inr (1, [.ref a_ends, .int nc, .int sc, .int br, .int so, .int lo]))] s.heap.size = A at hD hKZ ⊢
  have hA : ∀ q : Nat, s.heap.size ≤ q → A q := fun q h => by rw [← hAe]; exact Or.inr h
  have hS : va_S A s.heap s.heap [] := va_S.rf
  have hl := lv_entry ([.ref h_x, .int p0, .int p1]) (n := 5) (Nat.le_of_ble_eq_true rfl)
  rw [lg_entry_eq]
  generalize (lg_sl ([.ref h_x, .int p0, .int p1]) ++ List.replicate (5 - (lg_sl ([.ref h_x, .int p0, .int p1])).length) Slot.unset).toArray = ls at hl ⊢
  have hl : lv_has ls 5 [(0, .ref h_x), (1, .int p0), (2, .int p1)] := hl
  obtain ⟨QQ, hQQ⟩ : ∃ Z, Z = MQ below (QM D (some (.int r)) A [(h_x, .inr (4, [.ref h_net, .ref a_now, .ref a_don, .ref a_wri, .ref a_per, .ref a_tho, .ref a_aft])), (h_net, .inr (1, [.ref a_ends, .int r_0, .int sc, .int br, .int r_1, .int r_2]))]) ([.ref h_x, .int p0, .int p1] : List Value).toArray s 1 6 A := ⟨_, rfl⟩
  rw [← hQQ]
  obtain ⟨H, locs, hHe, hLe⟩ : ∃ (H : Heap) (locs : List Loc), H = s.heap ∧ locs = [] := ⟨_, _, rfl, rfl⟩
  have hP : va_P D vwCl [(h_x, .inr (4, [.ref h_net, .ref a_now, .ref a_don, .ref a_wri, .ref a_per, .ref a_tho, .ref a_aft])), (h_net, .inr (1, [.ref a_ends, .int nc, .int sc, .int br, .int so, .int lo]))] H := by rw [hHe]; exact hP
  have hS : va_S A s.heap H locs := by rw [hHe, hLe]; exact hS
  have hW0 : ∀ QQ : State → Prop, W p l e (headSpec wsL_addNode rmL_addNode).room s m (([.ref h_x, .int p0, .int p1] : List Value).toArray) below meth c H locs 0 0 QQ (F0 m 0 ls []) → W p l e (headSpec wsL_addNode rmL_addNode).room s m (([.ref h_x, .int p0, .int p1] : List Value).toArray) below meth c s.heap [] 0 0 QQ (F0 m 0 ls []) := by rw [hHe, hLe]; exact fun _ h => h
  refine hW0 _ ?_
  clear hW0
  unfold fL_addNode at h
  refine lv_aload_n hx hb dL_addNode_0 rfl (lv_at hl 0 rfl) ?_
  refine lv_iload_n hx hb dL_addNode_1 rfl (lv_at hl 1 rfl) ?_
  refine lv_iload_n hx hb dL_addNode_2 rfl (lv_at hl 2 rfl) ?_
  obtain ⟨Rr, hq, hx1, hk1⟩ := bh4_r h
  refine zz_xV (As := [.int p0, .int p1]) (wr := []) (w1 := fun u : (Int32) × (Int32) × (Int32) × (Int32) => [(h_x, .inr (4, [.ref h_net, .ref a_now, .ref a_don, .ref a_wri, .ref a_per, .ref a_tho, .ref a_aft])), (h_net, .inr (1, [.ref a_ends, .int u.2.1, .int sc, .int br, .int u.2.2.1, .int u.2.2.2]))]) (wt' := fun u : (Int32) × (Int32) × (Int32) × (Int32) => [(h_x, .inr (4, [.ref h_net, .ref a_now, .ref a_don, .ref a_wri, .ref a_per, .ref a_tho, .ref a_aft])), (h_net, .inr (1, [.ref a_ends, .int u.2.1, .int sc, .int br, .int u.2.2.1, .int u.2.2.2]))]) (wc := [(h_x, .inr (4, [.ref h_net, .ref a_now, .ref a_don, .ref a_wri, .ref a_per, .ref a_tho, .ref a_aft])), (h_net, .inr (1, [.ref a_ends, .int nc, .int sc, .int br, .int so, .int lo]))]) (rv := fun u => some (.int u.1)) ⟨hx, hb, hml, hown, hts⟩ (kX4_addNode l hl0 D cI cZ cL H.size h_x a_now a_don a_wri a_per a_tho a_aft h_net a_ends nc sc br so lo p0 p1 N hq) (cwV 2 hts gL_addNode_X4_addNode rfl rfl rfl (by decide +kernel) ⟨Nat.le_of_ble_eq_true rfl, Nat.le_of_ble_eq_true rfl⟩) hP hD hS hA hKK hKS hKZ [0, 1] [] [0, 1] rfl rfl (by decide) (by decide) (fun _ => rfl) rfl (by decide) (by decide) (va_recv hK hP (ci := 4) (q0 := 0) rfl rfl) rfl hl.1 rfl (Nat.le_of_ble_eq_true rfl) dL_addNode_3 ⟨Nat.le_of_ble_eq_true rfl, Nat.le_of_ble_eq_true rfl⟩ (fun E ce q9 H locs hE hP hD hS h1 h2 h3 => ?_) (fun u H locs hu hP hD hS => ?_)
  · have h := hx1 E hE
    by_cases c0 : E = "java/lang/IllegalStateException"
    · have h := it_t h c0
      subst c0
      cases h
      refine vx_catch (own := RL) (name := "java/lang/IllegalStateException") hown [] ⟨0, 7, 10, 14⟩ [] htab (fun z hz => absurd hz List.not_mem_nil) (by decide) (by decide) (hts _ lkL_addNode_0) (va_Nw.use rfl (hKS.2 (.castable "java/lang/IllegalStateException" "java/lang/IllegalStateException") (by decide +kernel))) h1 h2 h3 ?_
      refine lv_astore (lv' := [(4, .ref q9), (0, .ref h_x), (1, .int p0), (2, .int p1)]) hx hb dL_addNode_10 hl (by decide) rfl (fun ls hl => ?_)
      refine lv_bipush (v := (-73)) hx hb dL_addNode_12 (by decide) ?_
      rw [hQQ]
      refine W.widen (k := 1) (n := 6) (Nat.le_of_ble_eq_true rfl) (Nat.le_of_ble_eq_true rfl) ?_
      exact W.iret hx hb hr (fun t ht hW => ⟨rfl, by rw [ht]; exact hP, hD, hS.F ht⟩) hS.2.2 dL_addNode_14
    have h := it_f h c0
    cases h
  · obtain ⟨v, w0, w1, w2⟩ := u
    have h := hk1 _ _ _ _ hu
    have hP : va_P D vwCl [(h_x, .inr (4, [.ref h_net, .ref a_now, .ref a_don, .ref a_wri, .ref a_per, .ref a_tho, .ref a_aft])), (h_net, .inr (1, [.ref a_ends, .int w0, .int sc, .int br, .int w1, .int w2]))] H := hP
    have hD : va_D A [(h_x, .inr (4, [.ref h_net, .ref a_now, .ref a_don, .ref a_wri, .ref a_per, .ref a_tho, .ref a_aft])), (h_net, .inr (1, [.ref a_ends, .int w0, .int sc, .int br, .int w1, .int w2]))] := hD
    show W p l e _ s m _ below meth c H locs _ _ QQ (F0 m 6 ls (.int v :: []))
    refine lv_istore_n (lv' := [(3, .int v), (0, .ref h_x), (1, .int p0), (2, .int p1)]) hx hb dL_addNode_6 rfl hl (by decide) rfl (fun ls hl => ?_)
    refine lv_goto (tgt := 15) hx hb dL_addNode_7 (by decide) ?_
    refine lv_iload_n hx hb dL_addNode_15 rfl (lv_at hl 0 rfl) ?_
    cases h
    rw [hQQ]
    refine W.widen (k := 1) (n := 6) (Nat.le_of_ble_eq_true rfl) (Nat.le_of_ble_eq_true rfl) ?_
    exact W.iret hx hb hr (fun t ht hW => ⟨rfl, by rw [ht]; exact hP, hD, hS.F ht⟩) hS.2.2 dL_addNode_16

def fL_addSwitch (N : Nat) (nc : Int32) (sc : Int32) (br : Int32) (so : Int32) (lo : Int32) (ends : Nat → Int32) (p0 : Int32) (p1 : Int32) (p2 : Int32) : Option ((Int32) × (Nat → Int32) × (Int32) × (Int32)) :=
  bh4 (fX4_addSwitch N nc sc br so lo ends p0 p1 p2) (fun E => (if E = "java/lang/IndexOutOfBoundsException" then some ((-72), ends, sc, br) else (if E = "java/lang/IllegalArgumentException" then some ((-71), ends, sc, br) else (if E = "java/lang/IllegalStateException" then some ((-73), ends, sc, br) else none)))) (fun v w0 w1 w2 => some (v, w0, w1, w2))
set_option maxRecDepth 100000 in
theorem lkL_addSwitch_0 : (.classLink RL 20 "java/lang/IndexOutOfBoundsException" : Cond) ∈ wsL_addSwitch := by decide +kernel
set_option maxRecDepth 100000 in
theorem lkL_addSwitch_1 : (.classLink RL 22 "java/lang/IllegalArgumentException" : Cond) ∈ wsL_addSwitch := by decide +kernel
set_option maxRecDepth 100000 in
theorem lkL_addSwitch_2 : (.classLink RL 14 "java/lang/IllegalStateException" : Cond) ∈ wsL_addSwitch := by decide +kernel
abbrev rmL_addSwitch : Room := { frames := 8, cells := 3, slots := 18, locals := 126 }
set_option maxHeartbeats 4000000 in
set_option maxRecDepth 100000 in
theorem kL_addSwitch (l : Launch) (hl0 : l.stackTraces = false) (D : va_G) (cI cZ cL : ClassId) (sz0 : Nat) (h_x a_now a_don a_wri a_per a_tho a_aft h_net h_ends : Nat) (nc : Int32) (sc : Int32) (br : Int32) (so : Int32) (lo : Int32) (ends : Nat → Int32) (p0 : Int32) (p1 : Int32) (p2 : Int32) (N : Nat) {r : Int32} {r_0 : Nat → Int32} {r_1 : Int32} {r_2 : Int32} (h : fL_addSwitch N nc sc br so lo ends p0 p1 p2 = some (r, r_0, r_1, r_2)) : Met l yL_addSwitch wsL_addSwitch rmL_addSwitch (PH D cI cZ cL [.ref h_x, .int p0, .int p1, .int p2] [(h_x, .inr (4, [.ref h_net, .ref a_now, .ref a_don, .ref a_wri, .ref a_per, .ref a_tho, .ref a_aft])), (h_net, .inr (1, [.ref h_ends, .int nc, .int sc, .int br, .int so, .int lo])), (h_ends, .inl (cI, 24, .inl ends))] sz0) (QM D (some (.int r)) (va_A [(h_x, .inr (4, [.ref h_net, .ref a_now, .ref a_don, .ref a_wri, .ref a_per, .ref a_tho, .ref a_aft])), (h_net, .inr (1, [.ref h_ends, .int nc, .int sc, .int br, .int so, .int lo])), (h_ends, .inl (cI, 24, .inl ends))] sz0) [(h_x, .inr (4, [.ref h_net, .ref a_now, .ref a_don, .ref a_wri, .ref a_per, .ref a_tho, .ref a_aft])), (h_net, .inr (1, [.ref h_ends, .int nc, .int r_1, .int r_2, .int so, .int lo])), (h_ends, .inl (cI, 24, .inl r_0))]) 3 18 (va_A [(h_x, .inr (4, [.ref h_net, .ref a_now, .ref a_don, .ref a_wri, .ref a_per, .ref a_tho, .ref a_aft])), (h_net, .inr (1, [.ref h_ends, .int nc, .int sc, .int br, .int so, .int lo])), (h_ends, .inl (cI, 24, .inl ends))] sz0) := by
  refine zz_ofWH (cc := cL_addSwitch) (maxL := 6) (ret := (some .int)) (hh := [(0, 9, 12, 20), (0, 9, 17, 22), (0, 9, 22, 14)]) (by decide) rfl ?_
  intro p e s m args below meth c s₁ B hml hv
  obtain ⟨rfl, hsz, hP, hKK, hD0, hKS, hKZ, hKX⟩ := hv
  have hK := hKK.1
  have hx := B.exec
  have hb := B.bytes
  have hr := B.returns
  have hts := atoms_spec (ws := wsL_addSwitch) B.pre
  have hown : s.vm.findClass RL = some m.cls := findClass_of_methodNamed B.named
  have hlocks := B.notSynchronized
  have htab : c.exceptionTable.toList = [⟨0, 9, 12, 20⟩, ⟨0, 9, 17, 22⟩, ⟨0, 9, 22, 14⟩] := (vx_table (x := yL_addSwitch) B (hts (.codeWith yL_addSwitch cL_addSwitch 6 (some .int) [(0, 9, 12, 20), (0, 9, 17, 22), (0, 9, 22, 14)]) List.mem_cons_self)).trans rfl
  subst hsz
  have hD := hD0.self (sz := s.heap.size)
  generalize hAe : va_A [(h_x, .inr (4, [.ref h_net, .ref a_now, .ref a_don, .ref a_wri, .ref a_per, .ref a_tho, .ref a_aft])), (h_net, .inr (1, [.ref h_ends, .int nc, .int sc, .int br, .int so, .int lo])), (h_ends, .inl (cI, 24, .inl ends))] s.heap.size = A at hD hKZ ⊢
  have hA : ∀ q : Nat, s.heap.size ≤ q → A q := fun q h => by rw [← hAe]; exact Or.inr h
  have hS : va_S A s.heap s.heap [] := va_S.rf
  have hl := lv_entry ([.ref h_x, .int p0, .int p1, .int p2]) (n := 6) (Nat.le_of_ble_eq_true rfl)
  rw [lg_entry_eq]
  generalize (lg_sl ([.ref h_x, .int p0, .int p1, .int p2]) ++ List.replicate (6 - (lg_sl ([.ref h_x, .int p0, .int p1, .int p2])).length) Slot.unset).toArray = ls at hl ⊢
  have hl : lv_has ls 6 [(0, .ref h_x), (1, .int p0), (2, .int p1), (3, .int p2)] := hl
  obtain ⟨QQ, hQQ⟩ : ∃ Z, Z = MQ below (QM D (some (.int r)) A [(h_x, .inr (4, [.ref h_net, .ref a_now, .ref a_don, .ref a_wri, .ref a_per, .ref a_tho, .ref a_aft])), (h_net, .inr (1, [.ref h_ends, .int nc, .int r_1, .int r_2, .int so, .int lo])), (h_ends, .inl (cI, 24, .inl r_0))]) ([.ref h_x, .int p0, .int p1, .int p2] : List Value).toArray s 3 18 A := ⟨_, rfl⟩
  rw [← hQQ]
  obtain ⟨H, locs, hHe, hLe⟩ : ∃ (H : Heap) (locs : List Loc), H = s.heap ∧ locs = [] := ⟨_, _, rfl, rfl⟩
  have hP : va_P D vwCl [(h_x, .inr (4, [.ref h_net, .ref a_now, .ref a_don, .ref a_wri, .ref a_per, .ref a_tho, .ref a_aft])), (h_net, .inr (1, [.ref h_ends, .int nc, .int sc, .int br, .int so, .int lo])), (h_ends, .inl (cI, 24, .inl ends))] H := by rw [hHe]; exact hP
  have hS : va_S A s.heap H locs := by rw [hHe, hLe]; exact hS
  have hW0 : ∀ QQ : State → Prop, W p l e (headSpec wsL_addSwitch rmL_addSwitch).room s m (([.ref h_x, .int p0, .int p1, .int p2] : List Value).toArray) below meth c H locs 0 0 QQ (F0 m 0 ls []) → W p l e (headSpec wsL_addSwitch rmL_addSwitch).room s m (([.ref h_x, .int p0, .int p1, .int p2] : List Value).toArray) below meth c s.heap [] 0 0 QQ (F0 m 0 ls []) := by rw [hHe, hLe]; exact fun _ h => h
  refine hW0 _ ?_
  clear hW0
  unfold fL_addSwitch at h
  refine lv_aload_n hx hb dL_addSwitch_0 rfl (lv_at hl 0 rfl) ?_
  refine lv_iload_n hx hb dL_addSwitch_1 rfl (lv_at hl 1 rfl) ?_
  refine lv_iload_n hx hb dL_addSwitch_2 rfl (lv_at hl 2 rfl) ?_
  refine lv_iload_n hx hb dL_addSwitch_3 rfl (lv_at hl 3 rfl) ?_
  obtain ⟨Rr, hq, hx1, hk1⟩ := bh4_r h
  refine zz_xV (As := [.int p0, .int p1, .int p2]) (wr := []) (w1 := fun u : (Int32) × (Nat → Int32) × (Int32) × (Int32) => [(h_x, .inr (4, [.ref h_net, .ref a_now, .ref a_don, .ref a_wri, .ref a_per, .ref a_tho, .ref a_aft])), (h_net, .inr (1, [.ref h_ends, .int nc, .int u.2.2.1, .int u.2.2.2, .int so, .int lo])), (h_ends, .inl (cI, 24, .inl u.2.1))]) (wt' := fun u : (Int32) × (Nat → Int32) × (Int32) × (Int32) => [(h_x, .inr (4, [.ref h_net, .ref a_now, .ref a_don, .ref a_wri, .ref a_per, .ref a_tho, .ref a_aft])), (h_net, .inr (1, [.ref h_ends, .int nc, .int u.2.2.1, .int u.2.2.2, .int so, .int lo])), (h_ends, .inl (cI, 24, .inl u.2.1))]) (wc := [(h_x, .inr (4, [.ref h_net, .ref a_now, .ref a_don, .ref a_wri, .ref a_per, .ref a_tho, .ref a_aft])), (h_net, .inr (1, [.ref h_ends, .int nc, .int sc, .int br, .int so, .int lo])), (h_ends, .inl (cI, 24, .inl ends))]) (rv := fun u => some (.int u.1)) ⟨hx, hb, hml, hown, hts⟩ (kX4_addSwitch l hl0 D cI cZ cL H.size h_x a_now a_don a_wri a_per a_tho a_aft h_net h_ends nc sc br so lo ends p0 p1 p2 N hq) (cwV 3 hts gL_addSwitch_X4_addSwitch rfl rfl rfl (by decide +kernel) ⟨Nat.le_of_ble_eq_true rfl, Nat.le_of_ble_eq_true rfl⟩) hP hD hS hA hKK hKS hKZ [0, 1, 2] [] [0, 1, 2] rfl rfl (by decide) (by decide) (fun _ => rfl) rfl (by decide) (by decide) (va_recv hK hP (ci := 4) (q0 := 0) rfl rfl) rfl hl.1 rfl (Nat.le_of_ble_eq_true rfl) dL_addSwitch_4 ⟨Nat.le_of_ble_eq_true rfl, Nat.le_of_ble_eq_true rfl⟩ (fun E ce q9 H locs hE hP hD hS h1 h2 h3 => ?_) (fun u H locs hu hP hD hS => ?_)
  · have h := hx1 E hE
    by_cases c0 : E = "java/lang/IndexOutOfBoundsException"
    · have h := it_t h c0
      subst c0
      cases h
      refine vx_catch (own := RL) (name := "java/lang/IndexOutOfBoundsException") hown [] ⟨0, 9, 12, 20⟩ [⟨0, 9, 17, 22⟩, ⟨0, 9, 22, 14⟩] htab (fun z hz => absurd hz List.not_mem_nil) (by decide) (by decide) (hts _ lkL_addSwitch_0) (va_Nw.use rfl (hKS.2 (.castable "java/lang/IndexOutOfBoundsException" "java/lang/IndexOutOfBoundsException") (by decide +kernel))) h1 h2 h3 ?_
      refine lv_astore (lv' := [(5, .ref q9), (0, .ref h_x), (1, .int p0), (2, .int p1), (3, .int p2)]) hx hb dL_addSwitch_12 hl (by decide) rfl (fun ls hl => ?_)
      refine lv_bipush (v := (-72)) hx hb dL_addSwitch_14 (by decide) ?_
      rw [hQQ]
      refine W.widen (k := 3) (n := 18) (Nat.le_of_ble_eq_true rfl) (Nat.le_of_ble_eq_true rfl) ?_
      exact W.iret hx hb hr (fun t ht hW => ⟨rfl, by rw [ht]; exact hP, hD, hS.F ht⟩) hS.2.2 dL_addSwitch_16
    have h := it_f h c0
    by_cases c1 : E = "java/lang/IllegalArgumentException"
    · have h := it_t h c1
      subst c1
      cases h
      refine vx_catch (own := RL) (name := "java/lang/IllegalArgumentException") hown [⟨0, 9, 12, 20⟩] ⟨0, 9, 17, 22⟩ [⟨0, 9, 22, 14⟩] htab (List.forall_mem_cons.mpr ⟨Or.inr ⟨by decide, ⟨"java/lang/IndexOutOfBoundsException", hts _ lkL_addSwitch_0, hKX ("java/lang/IllegalArgumentException", "java/lang/IndexOutOfBoundsException") (by decide)⟩⟩, (fun z hz => absurd hz List.not_mem_nil)⟩) (by decide) (by decide) (hts _ lkL_addSwitch_1) (va_Nw.use rfl (hKS.2 (.castable "java/lang/IllegalArgumentException" "java/lang/IllegalArgumentException") (by decide +kernel))) h1 h2 h3 ?_
      refine lv_astore (lv' := [(5, .ref q9), (0, .ref h_x), (1, .int p0), (2, .int p1), (3, .int p2)]) hx hb dL_addSwitch_17 hl (by decide) rfl (fun ls hl => ?_)
      refine lv_bipush (v := (-71)) hx hb dL_addSwitch_19 (by decide) ?_
      rw [hQQ]
      refine W.widen (k := 3) (n := 18) (Nat.le_of_ble_eq_true rfl) (Nat.le_of_ble_eq_true rfl) ?_
      exact W.iret hx hb hr (fun t ht hW => ⟨rfl, by rw [ht]; exact hP, hD, hS.F ht⟩) hS.2.2 dL_addSwitch_21
    have h := it_f h c1
    by_cases c2 : E = "java/lang/IllegalStateException"
    · have h := it_t h c2
      subst c2
      cases h
      refine vx_catch (own := RL) (name := "java/lang/IllegalStateException") hown [⟨0, 9, 12, 20⟩, ⟨0, 9, 17, 22⟩] ⟨0, 9, 22, 14⟩ [] htab (List.forall_mem_cons.mpr ⟨Or.inr ⟨by decide, ⟨"java/lang/IndexOutOfBoundsException", hts _ lkL_addSwitch_0, hKX ("java/lang/IllegalStateException", "java/lang/IndexOutOfBoundsException") (by decide)⟩⟩, (List.forall_mem_cons.mpr ⟨Or.inr ⟨by decide, ⟨"java/lang/IllegalArgumentException", hts _ lkL_addSwitch_1, hKX ("java/lang/IllegalStateException", "java/lang/IllegalArgumentException") (by decide)⟩⟩, (fun z hz => absurd hz List.not_mem_nil)⟩)⟩) (by decide) (by decide) (hts _ lkL_addSwitch_2) (va_Nw.use rfl (hKS.2 (.castable "java/lang/IllegalStateException" "java/lang/IllegalStateException") (by decide +kernel))) h1 h2 h3 ?_
      refine lv_astore (lv' := [(5, .ref q9), (0, .ref h_x), (1, .int p0), (2, .int p1), (3, .int p2)]) hx hb dL_addSwitch_22 hl (by decide) rfl (fun ls hl => ?_)
      refine lv_bipush (v := (-73)) hx hb dL_addSwitch_24 (by decide) ?_
      rw [hQQ]
      refine W.widen (k := 3) (n := 18) (Nat.le_of_ble_eq_true rfl) (Nat.le_of_ble_eq_true rfl) ?_
      exact W.iret hx hb hr (fun t ht hW => ⟨rfl, by rw [ht]; exact hP, hD, hS.F ht⟩) hS.2.2 dL_addSwitch_26
    have h := it_f h c2
    cases h
  · obtain ⟨v, w0, w1, w2⟩ := u
    have h := hk1 _ _ _ _ hu
    have hP : va_P D vwCl [(h_x, .inr (4, [.ref h_net, .ref a_now, .ref a_don, .ref a_wri, .ref a_per, .ref a_tho, .ref a_aft])), (h_net, .inr (1, [.ref h_ends, .int nc, .int w1, .int w2, .int so, .int lo])), (h_ends, .inl (cI, 24, .inl w0))] H := hP
    have hD : va_D A [(h_x, .inr (4, [.ref h_net, .ref a_now, .ref a_don, .ref a_wri, .ref a_per, .ref a_tho, .ref a_aft])), (h_net, .inr (1, [.ref h_ends, .int nc, .int w1, .int w2, .int so, .int lo])), (h_ends, .inl (cI, 24, .inl w0))] := hD
    show W p l e _ s m _ below meth c H locs _ _ QQ (F0 m 7 ls (.int v :: []))
    refine lv_istore (lv' := [(4, .int v), (0, .ref h_x), (1, .int p0), (2, .int p1), (3, .int p2)]) hx hb dL_addSwitch_7 hl (by decide) rfl (fun ls hl => ?_)
    refine lv_goto (tgt := 27) hx hb dL_addSwitch_9 (by decide) ?_
    refine lv_iload hx hb dL_addSwitch_27 (lv_at hl 0 rfl) ?_
    cases h
    rw [hQQ]
    refine W.widen (k := 3) (n := 18) (Nat.le_of_ble_eq_true rfl) (Nat.le_of_ble_eq_true rfl) ?_
    exact W.iret hx hb hr (fun t ht hW => ⟨rfl, by rw [ht]; exact hP, hD, hS.F ht⟩) hS.2.2 dL_addSwitch_29

def fL_act (N : Nat) (nc : Int32) (sc : Int32) (br : Int32) (so : Int32) (lo : Int32) (ends : Nat → Int32) (cl : Int32) (ea : Int32) (on : Int32) (ds : Int32) (dac : Nat → Int32) (pg : Int32) (hol : Nat → Int32) (ac : Int32) (ae : Int32) (ao : Int32) (p0 : Int32) (p1 : Int32) : Option ((Int32) × (Int32) × (Int32) × (Int32) × (Int32) × (Nat → Int32) × (Int32) × (Int32) × (Int32)) :=
  bh9 (fX4_act N nc sc br so lo ends cl ea on ds dac pg hol ac ae ao p0 p1) (fun E => (if E = "java/lang/IllegalArgumentException" then some ((-71), cl, ea, on, ds, dac, ac, ae, ao) else (if E = "java/lang/IndexOutOfBoundsException" then some ((-72), cl, ea, on, ds, dac, ac, ae, ao) else none))) (fun v w0 w1 w2 w3 w4 w5 w6 w7 => some (v, w0, w1, w2, w3, w4, w5, w6, w7))
set_option maxRecDepth 100000 in
theorem lkL_act_0 : (.classLink RL 22 "java/lang/IllegalArgumentException" : Cond) ∈ wsL_act := by decide +kernel
set_option maxRecDepth 100000 in
theorem lkL_act_1 : (.classLink RL 20 "java/lang/IndexOutOfBoundsException" : Cond) ∈ wsL_act := by decide +kernel
abbrev rmL_act : Room := { frames := 8, cells := 2, slots := 12, locals := 163 }
set_option maxHeartbeats 4000000 in
set_option maxRecDepth 100000 in
theorem kL_act (l : Launch) (hl0 : l.stackTraces = false) (D : va_G) (cI cZ cL : ClassId) (sz0 : Nat) (h_x a_wri a_tho h_net h_ends h_now h_don h_dac h_per h_hol h_aft : Nat) (nc : Int32) (sc : Int32) (br : Int32) (so : Int32) (lo : Int32) (ends : Nat → Int32) (cl : Int32) (ea : Int32) (on : Int32) (ds : Int32) (dac : Nat → Int32) (pg : Int32) (hol : Nat → Int32) (ac : Int32) (ae : Int32) (ao : Int32) (p0 : Int32) (p1 : Int32) (N : Nat) {r : Int32} {r_0 : Int32} {r_1 : Int32} {r_2 : Int32} {r_3 : Int32} {r_4 : Nat → Int32} {r_5 : Int32} {r_6 : Int32} {r_7 : Int32} (h : fL_act N nc sc br so lo ends cl ea on ds dac pg hol ac ae ao p0 p1 = some (r, r_0, r_1, r_2, r_3, r_4, r_5, r_6, r_7)) : Met l yL_act wsL_act rmL_act (PH D cI cZ cL [.ref h_x, .int p0, .int p1] [(h_x, .inr (4, [.ref h_net, .ref h_now, .ref h_don, .ref a_wri, .ref h_per, .ref a_tho, .ref h_aft])), (h_net, .inr (1, [.ref h_ends, .int nc, .int sc, .int br, .int so, .int lo])), (h_ends, .inl (cI, 24, .inl ends)), (h_now, .inr (3, [.int cl, .int ea, .int on])), (h_don, .inr (0, [.ref h_dac, .int ds])), (h_dac, .inl (cI, 200, .inl dac)), (h_per, .inr (2, [.ref h_hol, .int pg])), (h_hol, .inl (cI, 10, .inl hol)), (h_aft, .inr (3, [.int ac, .int ae, .int ao]))] sz0) (QM D (some (.int r)) (va_A [(h_x, .inr (4, [.ref h_net, .ref h_now, .ref h_don, .ref a_wri, .ref h_per, .ref a_tho, .ref h_aft])), (h_net, .inr (1, [.ref h_ends, .int nc, .int sc, .int br, .int so, .int lo])), (h_ends, .inl (cI, 24, .inl ends)), (h_now, .inr (3, [.int cl, .int ea, .int on])), (h_don, .inr (0, [.ref h_dac, .int ds])), (h_dac, .inl (cI, 200, .inl dac)), (h_per, .inr (2, [.ref h_hol, .int pg])), (h_hol, .inl (cI, 10, .inl hol)), (h_aft, .inr (3, [.int ac, .int ae, .int ao]))] sz0) [(h_x, .inr (4, [.ref h_net, .ref h_now, .ref h_don, .ref a_wri, .ref h_per, .ref a_tho, .ref h_aft])), (h_net, .inr (1, [.ref h_ends, .int nc, .int sc, .int br, .int so, .int lo])), (h_ends, .inl (cI, 24, .inl ends)), (h_now, .inr (3, [.int r_0, .int r_1, .int r_2])), (h_don, .inr (0, [.ref h_dac, .int r_3])), (h_dac, .inl (cI, 200, .inl r_4)), (h_per, .inr (2, [.ref h_hol, .int pg])), (h_hol, .inl (cI, 10, .inl hol)), (h_aft, .inr (3, [.int r_5, .int r_6, .int r_7]))]) 2 12 (va_A [(h_x, .inr (4, [.ref h_net, .ref h_now, .ref h_don, .ref a_wri, .ref h_per, .ref a_tho, .ref h_aft])), (h_net, .inr (1, [.ref h_ends, .int nc, .int sc, .int br, .int so, .int lo])), (h_ends, .inl (cI, 24, .inl ends)), (h_now, .inr (3, [.int cl, .int ea, .int on])), (h_don, .inr (0, [.ref h_dac, .int ds])), (h_dac, .inl (cI, 200, .inl dac)), (h_per, .inr (2, [.ref h_hol, .int pg])), (h_hol, .inl (cI, 10, .inl hol)), (h_aft, .inr (3, [.int ac, .int ae, .int ao]))] sz0) := by
  refine zz_ofWH (cc := cL_act) (maxL := 5) (ret := (some .int)) (hh := [(0, 7, 10, 22), (0, 7, 15, 20)]) (by decide) rfl ?_
  intro p e s m args below meth c s₁ B hml hv
  obtain ⟨rfl, hsz, hP, hKK, hD0, hKS, hKZ, hKX⟩ := hv
  have hK := hKK.1
  have hx := B.exec
  have hb := B.bytes
  have hr := B.returns
  have hts := atoms_spec (ws := wsL_act) B.pre
  have hown : s.vm.findClass RL = some m.cls := findClass_of_methodNamed B.named
  have hlocks := B.notSynchronized
  have htab : c.exceptionTable.toList = [⟨0, 7, 10, 22⟩, ⟨0, 7, 15, 20⟩] := (vx_table (x := yL_act) B (hts (.codeWith yL_act cL_act 5 (some .int) [(0, 7, 10, 22), (0, 7, 15, 20)]) List.mem_cons_self)).trans rfl
  subst hsz
  have hD := hD0.self (sz := s.heap.size)
  generalize hAe : va_A [(h_x, .inr (4, [.ref h_net, .ref h_now, .ref h_don, .ref a_wri, .ref h_per, .ref a_tho, .ref h_aft])), (h_net, .inr (1, [.ref h_ends, .int nc, .int sc, .int br, .int so, .int lo])), (h_ends, .inl (cI, 24, .inl ends)), (h_now, .inr (3, [.int cl, .int ea, .int on])), (h_don, .inr (0, [.ref h_dac, .int ds])), (h_dac, .inl (cI, 200, .inl dac)), (h_per, .inr (2, [.ref h_hol, .int pg])), (h_hol, .inl (cI, 10, .inl hol)), (h_aft, .inr (3, [.int ac, .int ae, .int ao]))] s.heap.size = A at hD hKZ ⊢
  have hA : ∀ q : Nat, s.heap.size ≤ q → A q := fun q h => by rw [← hAe]; exact Or.inr h
  have hS : va_S A s.heap s.heap [] := va_S.rf
  have hl := lv_entry ([.ref h_x, .int p0, .int p1]) (n := 5) (Nat.le_of_ble_eq_true rfl)
  rw [lg_entry_eq]
  generalize (lg_sl ([.ref h_x, .int p0, .int p1]) ++ List.replicate (5 - (lg_sl ([.ref h_x, .int p0, .int p1])).length) Slot.unset).toArray = ls at hl ⊢
  have hl : lv_has ls 5 [(0, .ref h_x), (1, .int p0), (2, .int p1)] := hl
  obtain ⟨QQ, hQQ⟩ : ∃ Z, Z = MQ below (QM D (some (.int r)) A [(h_x, .inr (4, [.ref h_net, .ref h_now, .ref h_don, .ref a_wri, .ref h_per, .ref a_tho, .ref h_aft])), (h_net, .inr (1, [.ref h_ends, .int nc, .int sc, .int br, .int so, .int lo])), (h_ends, .inl (cI, 24, .inl ends)), (h_now, .inr (3, [.int r_0, .int r_1, .int r_2])), (h_don, .inr (0, [.ref h_dac, .int r_3])), (h_dac, .inl (cI, 200, .inl r_4)), (h_per, .inr (2, [.ref h_hol, .int pg])), (h_hol, .inl (cI, 10, .inl hol)), (h_aft, .inr (3, [.int r_5, .int r_6, .int r_7]))]) ([.ref h_x, .int p0, .int p1] : List Value).toArray s 2 12 A := ⟨_, rfl⟩
  rw [← hQQ]
  obtain ⟨H, locs, hHe, hLe⟩ : ∃ (H : Heap) (locs : List Loc), H = s.heap ∧ locs = [] := ⟨_, _, rfl, rfl⟩
  have hP : va_P D vwCl [(h_x, .inr (4, [.ref h_net, .ref h_now, .ref h_don, .ref a_wri, .ref h_per, .ref a_tho, .ref h_aft])), (h_net, .inr (1, [.ref h_ends, .int nc, .int sc, .int br, .int so, .int lo])), (h_ends, .inl (cI, 24, .inl ends)), (h_now, .inr (3, [.int cl, .int ea, .int on])), (h_don, .inr (0, [.ref h_dac, .int ds])), (h_dac, .inl (cI, 200, .inl dac)), (h_per, .inr (2, [.ref h_hol, .int pg])), (h_hol, .inl (cI, 10, .inl hol)), (h_aft, .inr (3, [.int ac, .int ae, .int ao]))] H := by rw [hHe]; exact hP
  have hS : va_S A s.heap H locs := by rw [hHe, hLe]; exact hS
  have hW0 : ∀ QQ : State → Prop, W p l e (headSpec wsL_act rmL_act).room s m (([.ref h_x, .int p0, .int p1] : List Value).toArray) below meth c H locs 0 0 QQ (F0 m 0 ls []) → W p l e (headSpec wsL_act rmL_act).room s m (([.ref h_x, .int p0, .int p1] : List Value).toArray) below meth c s.heap [] 0 0 QQ (F0 m 0 ls []) := by rw [hHe, hLe]; exact fun _ h => h
  refine hW0 _ ?_
  clear hW0
  unfold fL_act at h
  refine lv_aload_n hx hb dL_act_0 rfl (lv_at hl 0 rfl) ?_
  refine lv_iload_n hx hb dL_act_1 rfl (lv_at hl 1 rfl) ?_
  refine lv_iload_n hx hb dL_act_2 rfl (lv_at hl 2 rfl) ?_
  obtain ⟨Rr, hq, hx1, hk1⟩ := bh9_r h
  refine zz_xV (As := [.int p0, .int p1]) (wr := []) (w1 := fun u : (Int32) × (Int32) × (Int32) × (Int32) × (Int32) × (Nat → Int32) × (Int32) × (Int32) × (Int32) => [(h_x, .inr (4, [.ref h_net, .ref h_now, .ref h_don, .ref a_wri, .ref h_per, .ref a_tho, .ref h_aft])), (h_net, .inr (1, [.ref h_ends, .int nc, .int sc, .int br, .int so, .int lo])), (h_ends, .inl (cI, 24, .inl ends)), (h_now, .inr (3, [.int u.2.1, .int u.2.2.1, .int u.2.2.2.1])), (h_don, .inr (0, [.ref h_dac, .int u.2.2.2.2.1])), (h_dac, .inl (cI, 200, .inl u.2.2.2.2.2.1)), (h_per, .inr (2, [.ref h_hol, .int pg])), (h_hol, .inl (cI, 10, .inl hol)), (h_aft, .inr (3, [.int u.2.2.2.2.2.2.1, .int u.2.2.2.2.2.2.2.1, .int u.2.2.2.2.2.2.2.2]))]) (wt' := fun u : (Int32) × (Int32) × (Int32) × (Int32) × (Int32) × (Nat → Int32) × (Int32) × (Int32) × (Int32) => [(h_x, .inr (4, [.ref h_net, .ref h_now, .ref h_don, .ref a_wri, .ref h_per, .ref a_tho, .ref h_aft])), (h_net, .inr (1, [.ref h_ends, .int nc, .int sc, .int br, .int so, .int lo])), (h_ends, .inl (cI, 24, .inl ends)), (h_now, .inr (3, [.int u.2.1, .int u.2.2.1, .int u.2.2.2.1])), (h_don, .inr (0, [.ref h_dac, .int u.2.2.2.2.1])), (h_dac, .inl (cI, 200, .inl u.2.2.2.2.2.1)), (h_per, .inr (2, [.ref h_hol, .int pg])), (h_hol, .inl (cI, 10, .inl hol)), (h_aft, .inr (3, [.int u.2.2.2.2.2.2.1, .int u.2.2.2.2.2.2.2.1, .int u.2.2.2.2.2.2.2.2]))]) (wc := [(h_x, .inr (4, [.ref h_net, .ref h_now, .ref h_don, .ref a_wri, .ref h_per, .ref a_tho, .ref h_aft])), (h_net, .inr (1, [.ref h_ends, .int nc, .int sc, .int br, .int so, .int lo])), (h_ends, .inl (cI, 24, .inl ends)), (h_now, .inr (3, [.int cl, .int ea, .int on])), (h_don, .inr (0, [.ref h_dac, .int ds])), (h_dac, .inl (cI, 200, .inl dac)), (h_per, .inr (2, [.ref h_hol, .int pg])), (h_hol, .inl (cI, 10, .inl hol)), (h_aft, .inr (3, [.int ac, .int ae, .int ao]))]) (rv := fun u => some (.int u.1)) ⟨hx, hb, hml, hown, hts⟩ (kX4_act l hl0 D cI cZ cL H.size h_x a_wri a_tho h_net h_ends h_now h_don h_dac h_per h_hol h_aft nc sc br so lo ends cl ea on ds dac pg hol ac ae ao p0 p1 N hq) (cwV 2 hts gL_act_X4_act rfl rfl rfl (by decide +kernel) ⟨Nat.le_of_ble_eq_true rfl, Nat.le_of_ble_eq_true rfl⟩) hP hD hS hA hKK hKS hKZ [0, 1, 2, 3, 4, 5, 6, 7, 8] [] [0, 1, 2, 3, 4, 5, 6, 7, 8] rfl rfl (by decide) (by decide) (fun _ => rfl) rfl (by decide) (by decide) (va_recv hK hP (ci := 4) (q0 := 0) rfl rfl) rfl hl.1 rfl (Nat.le_of_ble_eq_true rfl) dL_act_3 ⟨Nat.le_of_ble_eq_true rfl, Nat.le_of_ble_eq_true rfl⟩ (fun E ce q9 H locs hE hP hD hS h1 h2 h3 => ?_) (fun u H locs hu hP hD hS => ?_)
  · have h := hx1 E hE
    by_cases c0 : E = "java/lang/IllegalArgumentException"
    · have h := it_t h c0
      subst c0
      cases h
      refine vx_catch (own := RL) (name := "java/lang/IllegalArgumentException") hown [] ⟨0, 7, 10, 22⟩ [⟨0, 7, 15, 20⟩] htab (fun z hz => absurd hz List.not_mem_nil) (by decide) (by decide) (hts _ lkL_act_0) (va_Nw.use rfl (hKS.2 (.castable "java/lang/IllegalArgumentException" "java/lang/IllegalArgumentException") (by decide +kernel))) h1 h2 h3 ?_
      refine lv_astore (lv' := [(4, .ref q9), (0, .ref h_x), (1, .int p0), (2, .int p1)]) hx hb dL_act_10 hl (by decide) rfl (fun ls hl => ?_)
      refine lv_bipush (v := (-71)) hx hb dL_act_12 (by decide) ?_
      rw [hQQ]
      refine W.widen (k := 2) (n := 12) (Nat.le_of_ble_eq_true rfl) (Nat.le_of_ble_eq_true rfl) ?_
      exact W.iret hx hb hr (fun t ht hW => ⟨rfl, by rw [ht]; exact hP, hD, hS.F ht⟩) hS.2.2 dL_act_14
    have h := it_f h c0
    by_cases c1 : E = "java/lang/IndexOutOfBoundsException"
    · have h := it_t h c1
      subst c1
      cases h
      refine vx_catch (own := RL) (name := "java/lang/IndexOutOfBoundsException") hown [⟨0, 7, 10, 22⟩] ⟨0, 7, 15, 20⟩ [] htab (List.forall_mem_cons.mpr ⟨Or.inr ⟨by decide, ⟨"java/lang/IllegalArgumentException", hts _ lkL_act_0, hKX ("java/lang/IndexOutOfBoundsException", "java/lang/IllegalArgumentException") (by decide)⟩⟩, (fun z hz => absurd hz List.not_mem_nil)⟩) (by decide) (by decide) (hts _ lkL_act_1) (va_Nw.use rfl (hKS.2 (.castable "java/lang/IndexOutOfBoundsException" "java/lang/IndexOutOfBoundsException") (by decide +kernel))) h1 h2 h3 ?_
      refine lv_astore (lv' := [(4, .ref q9), (0, .ref h_x), (1, .int p0), (2, .int p1)]) hx hb dL_act_15 hl (by decide) rfl (fun ls hl => ?_)
      refine lv_bipush (v := (-72)) hx hb dL_act_17 (by decide) ?_
      rw [hQQ]
      refine W.widen (k := 2) (n := 12) (Nat.le_of_ble_eq_true rfl) (Nat.le_of_ble_eq_true rfl) ?_
      exact W.iret hx hb hr (fun t ht hW => ⟨rfl, by rw [ht]; exact hP, hD, hS.F ht⟩) hS.2.2 dL_act_19
    have h := it_f h c1
    cases h
  · obtain ⟨v, w0, w1, w2, w3, w4, w5, w6, w7⟩ := u
    have h := hk1 _ _ _ _ _ _ _ _ _ hu
    have hP : va_P D vwCl [(h_x, .inr (4, [.ref h_net, .ref h_now, .ref h_don, .ref a_wri, .ref h_per, .ref a_tho, .ref h_aft])), (h_net, .inr (1, [.ref h_ends, .int nc, .int sc, .int br, .int so, .int lo])), (h_ends, .inl (cI, 24, .inl ends)), (h_now, .inr (3, [.int w0, .int w1, .int w2])), (h_don, .inr (0, [.ref h_dac, .int w3])), (h_dac, .inl (cI, 200, .inl w4)), (h_per, .inr (2, [.ref h_hol, .int pg])), (h_hol, .inl (cI, 10, .inl hol)), (h_aft, .inr (3, [.int w5, .int w6, .int w7]))] H := hP
    have hD : va_D A [(h_x, .inr (4, [.ref h_net, .ref h_now, .ref h_don, .ref a_wri, .ref h_per, .ref a_tho, .ref h_aft])), (h_net, .inr (1, [.ref h_ends, .int nc, .int sc, .int br, .int so, .int lo])), (h_ends, .inl (cI, 24, .inl ends)), (h_now, .inr (3, [.int w0, .int w1, .int w2])), (h_don, .inr (0, [.ref h_dac, .int w3])), (h_dac, .inl (cI, 200, .inl w4)), (h_per, .inr (2, [.ref h_hol, .int pg])), (h_hol, .inl (cI, 10, .inl hol)), (h_aft, .inr (3, [.int w5, .int w6, .int w7]))] := hD
    show W p l e _ s m _ below meth c H locs _ _ QQ (F0 m 6 ls (.int v :: []))
    refine lv_istore_n (lv' := [(3, .int v), (0, .ref h_x), (1, .int p0), (2, .int p1)]) hx hb dL_act_6 rfl hl (by decide) rfl (fun ls hl => ?_)
    refine lv_goto (tgt := 20) hx hb dL_act_7 (by decide) ?_
    refine lv_iload_n hx hb dL_act_20 rfl (lv_at hl 0 rfl) ?_
    cases h
    rw [hQQ]
    refine W.widen (k := 2) (n := 12) (Nat.le_of_ble_eq_true rfl) (Nat.le_of_ble_eq_true rfl) ?_
    exact W.iret hx hb hr (fun t ht hW => ⟨rfl, by rw [ht]; exact hP, hD, hS.F ht⟩) hS.2.2 dL_act_21

def fL_reason (N : Nat) (nc : Int32) (sc : Int32) (br : Int32) (so : Int32) (lo : Int32) (ends : Nat → Int32) (cl : Int32) (ea : Int32) (on : Int32) (pg : Int32) (hol : Nat → Int32) (ac : Int32) (ae : Int32) (ao : Int32) (p0 : Int32) (p1 : Int32) : Option ((Int32) × (Int32) × (Int32) × (Int32)) :=
  bh4 (fX4_reason N nc sc br so lo ends cl ea on pg hol ac ae ao p0 p1) (fun E => (if E = "java/lang/IllegalArgumentException" then some ((-71), ac, ae, ao) else (if E = "java/lang/IndexOutOfBoundsException" then some ((-72), ac, ae, ao) else none))) (fun v w0 w1 w2 => some (v, w0, w1, w2))
set_option maxRecDepth 100000 in
theorem lkL_reason_0 : (.classLink RL 22 "java/lang/IllegalArgumentException" : Cond) ∈ wsL_reason := by decide +kernel
set_option maxRecDepth 100000 in
theorem lkL_reason_1 : (.classLink RL 20 "java/lang/IndexOutOfBoundsException" : Cond) ∈ wsL_reason := by decide +kernel
abbrev rmL_reason : Room := { frames := 8, cells := 1, slots := 6, locals := 141 }
set_option maxHeartbeats 4000000 in
set_option maxRecDepth 100000 in
theorem kL_reason (l : Launch) (hl0 : l.stackTraces = false) (D : va_G) (cI cZ cL : ClassId) (sz0 : Nat) (h_x a_don a_wri a_tho h_net h_ends h_now h_per h_hol h_aft : Nat) (nc : Int32) (sc : Int32) (br : Int32) (so : Int32) (lo : Int32) (ends : Nat → Int32) (cl : Int32) (ea : Int32) (on : Int32) (pg : Int32) (hol : Nat → Int32) (ac : Int32) (ae : Int32) (ao : Int32) (p0 : Int32) (p1 : Int32) (N : Nat) {r : Int32} {r_0 : Int32} {r_1 : Int32} {r_2 : Int32} (h : fL_reason N nc sc br so lo ends cl ea on pg hol ac ae ao p0 p1 = some (r, r_0, r_1, r_2)) : Met l yL_reason wsL_reason rmL_reason (PH D cI cZ cL [.ref h_x, .int p0, .int p1] [(h_x, .inr (4, [.ref h_net, .ref h_now, .ref a_don, .ref a_wri, .ref h_per, .ref a_tho, .ref h_aft])), (h_net, .inr (1, [.ref h_ends, .int nc, .int sc, .int br, .int so, .int lo])), (h_ends, .inl (cI, 24, .inl ends)), (h_now, .inr (3, [.int cl, .int ea, .int on])), (h_per, .inr (2, [.ref h_hol, .int pg])), (h_hol, .inl (cI, 10, .inl hol)), (h_aft, .inr (3, [.int ac, .int ae, .int ao]))] sz0) (QM D (some (.int r)) (va_A [(h_x, .inr (4, [.ref h_net, .ref h_now, .ref a_don, .ref a_wri, .ref h_per, .ref a_tho, .ref h_aft])), (h_net, .inr (1, [.ref h_ends, .int nc, .int sc, .int br, .int so, .int lo])), (h_ends, .inl (cI, 24, .inl ends)), (h_now, .inr (3, [.int cl, .int ea, .int on])), (h_per, .inr (2, [.ref h_hol, .int pg])), (h_hol, .inl (cI, 10, .inl hol)), (h_aft, .inr (3, [.int ac, .int ae, .int ao]))] sz0) [(h_x, .inr (4, [.ref h_net, .ref h_now, .ref a_don, .ref a_wri, .ref h_per, .ref a_tho, .ref h_aft])), (h_net, .inr (1, [.ref h_ends, .int nc, .int sc, .int br, .int so, .int lo])), (h_ends, .inl (cI, 24, .inl ends)), (h_now, .inr (3, [.int cl, .int ea, .int on])), (h_per, .inr (2, [.ref h_hol, .int pg])), (h_hol, .inl (cI, 10, .inl hol)), (h_aft, .inr (3, [.int r_0, .int r_1, .int r_2]))]) 1 6 (va_A [(h_x, .inr (4, [.ref h_net, .ref h_now, .ref a_don, .ref a_wri, .ref h_per, .ref a_tho, .ref h_aft])), (h_net, .inr (1, [.ref h_ends, .int nc, .int sc, .int br, .int so, .int lo])), (h_ends, .inl (cI, 24, .inl ends)), (h_now, .inr (3, [.int cl, .int ea, .int on])), (h_per, .inr (2, [.ref h_hol, .int pg])), (h_hol, .inl (cI, 10, .inl hol)), (h_aft, .inr (3, [.int ac, .int ae, .int ao]))] sz0) := by
  refine zz_ofWH (cc := cL_reason) (maxL := 5) (ret := (some .int)) (hh := [(0, 7, 10, 22), (0, 7, 15, 20)]) (by decide) rfl ?_
  intro p e s m args below meth c s₁ B hml hv
  obtain ⟨rfl, hsz, hP, hKK, hD0, hKS, hKZ, hKX⟩ := hv
  have hK := hKK.1
  have hx := B.exec
  have hb := B.bytes
  have hr := B.returns
  have hts := atoms_spec (ws := wsL_reason) B.pre
  have hown : s.vm.findClass RL = some m.cls := findClass_of_methodNamed B.named
  have hlocks := B.notSynchronized
  have htab : c.exceptionTable.toList = [⟨0, 7, 10, 22⟩, ⟨0, 7, 15, 20⟩] := (vx_table (x := yL_reason) B (hts (.codeWith yL_reason cL_reason 5 (some .int) [(0, 7, 10, 22), (0, 7, 15, 20)]) List.mem_cons_self)).trans rfl
  subst hsz
  have hD := hD0.self (sz := s.heap.size)
  generalize hAe : va_A [(h_x, .inr (4, [.ref h_net, .ref h_now, .ref a_don, .ref a_wri, .ref h_per, .ref a_tho, .ref h_aft])), (h_net, .inr (1, [.ref h_ends, .int nc, .int sc, .int br, .int so, .int lo])), (h_ends, .inl (cI, 24, .inl ends)), (h_now, .inr (3, [.int cl, .int ea, .int on])), (h_per, .inr (2, [.ref h_hol, .int pg])), (h_hol, .inl (cI, 10, .inl hol)), (h_aft, .inr (3, [.int ac, .int ae, .int ao]))] s.heap.size = A at hD hKZ ⊢
  have hA : ∀ q : Nat, s.heap.size ≤ q → A q := fun q h => by rw [← hAe]; exact Or.inr h
  have hS : va_S A s.heap s.heap [] := va_S.rf
  have hl := lv_entry ([.ref h_x, .int p0, .int p1]) (n := 5) (Nat.le_of_ble_eq_true rfl)
  rw [lg_entry_eq]
  generalize (lg_sl ([.ref h_x, .int p0, .int p1]) ++ List.replicate (5 - (lg_sl ([.ref h_x, .int p0, .int p1])).length) Slot.unset).toArray = ls at hl ⊢
  have hl : lv_has ls 5 [(0, .ref h_x), (1, .int p0), (2, .int p1)] := hl
  obtain ⟨QQ, hQQ⟩ : ∃ Z, Z = MQ below (QM D (some (.int r)) A [(h_x, .inr (4, [.ref h_net, .ref h_now, .ref a_don, .ref a_wri, .ref h_per, .ref a_tho, .ref h_aft])), (h_net, .inr (1, [.ref h_ends, .int nc, .int sc, .int br, .int so, .int lo])), (h_ends, .inl (cI, 24, .inl ends)), (h_now, .inr (3, [.int cl, .int ea, .int on])), (h_per, .inr (2, [.ref h_hol, .int pg])), (h_hol, .inl (cI, 10, .inl hol)), (h_aft, .inr (3, [.int r_0, .int r_1, .int r_2]))]) ([.ref h_x, .int p0, .int p1] : List Value).toArray s 1 6 A := ⟨_, rfl⟩
  rw [← hQQ]
  obtain ⟨H, locs, hHe, hLe⟩ : ∃ (H : Heap) (locs : List Loc), H = s.heap ∧ locs = [] := ⟨_, _, rfl, rfl⟩
  have hP : va_P D vwCl [(h_x, .inr (4, [.ref h_net, .ref h_now, .ref a_don, .ref a_wri, .ref h_per, .ref a_tho, .ref h_aft])), (h_net, .inr (1, [.ref h_ends, .int nc, .int sc, .int br, .int so, .int lo])), (h_ends, .inl (cI, 24, .inl ends)), (h_now, .inr (3, [.int cl, .int ea, .int on])), (h_per, .inr (2, [.ref h_hol, .int pg])), (h_hol, .inl (cI, 10, .inl hol)), (h_aft, .inr (3, [.int ac, .int ae, .int ao]))] H := by rw [hHe]; exact hP
  have hS : va_S A s.heap H locs := by rw [hHe, hLe]; exact hS
  have hW0 : ∀ QQ : State → Prop, W p l e (headSpec wsL_reason rmL_reason).room s m (([.ref h_x, .int p0, .int p1] : List Value).toArray) below meth c H locs 0 0 QQ (F0 m 0 ls []) → W p l e (headSpec wsL_reason rmL_reason).room s m (([.ref h_x, .int p0, .int p1] : List Value).toArray) below meth c s.heap [] 0 0 QQ (F0 m 0 ls []) := by rw [hHe, hLe]; exact fun _ h => h
  refine hW0 _ ?_
  clear hW0
  unfold fL_reason at h
  refine lv_aload_n hx hb dL_reason_0 rfl (lv_at hl 0 rfl) ?_
  refine lv_iload_n hx hb dL_reason_1 rfl (lv_at hl 1 rfl) ?_
  refine lv_iload_n hx hb dL_reason_2 rfl (lv_at hl 2 rfl) ?_
  obtain ⟨Rr, hq, hx1, hk1⟩ := bh4_r h
  refine zz_xV (As := [.int p0, .int p1]) (wr := []) (w1 := fun u : (Int32) × (Int32) × (Int32) × (Int32) => [(h_x, .inr (4, [.ref h_net, .ref h_now, .ref a_don, .ref a_wri, .ref h_per, .ref a_tho, .ref h_aft])), (h_net, .inr (1, [.ref h_ends, .int nc, .int sc, .int br, .int so, .int lo])), (h_ends, .inl (cI, 24, .inl ends)), (h_now, .inr (3, [.int cl, .int ea, .int on])), (h_per, .inr (2, [.ref h_hol, .int pg])), (h_hol, .inl (cI, 10, .inl hol)), (h_aft, .inr (3, [.int u.2.1, .int u.2.2.1, .int u.2.2.2]))]) (wt' := fun u : (Int32) × (Int32) × (Int32) × (Int32) => [(h_x, .inr (4, [.ref h_net, .ref h_now, .ref a_don, .ref a_wri, .ref h_per, .ref a_tho, .ref h_aft])), (h_net, .inr (1, [.ref h_ends, .int nc, .int sc, .int br, .int so, .int lo])), (h_ends, .inl (cI, 24, .inl ends)), (h_now, .inr (3, [.int cl, .int ea, .int on])), (h_per, .inr (2, [.ref h_hol, .int pg])), (h_hol, .inl (cI, 10, .inl hol)), (h_aft, .inr (3, [.int u.2.1, .int u.2.2.1, .int u.2.2.2]))]) (wc := [(h_x, .inr (4, [.ref h_net, .ref h_now, .ref a_don, .ref a_wri, .ref h_per, .ref a_tho, .ref h_aft])), (h_net, .inr (1, [.ref h_ends, .int nc, .int sc, .int br, .int so, .int lo])), (h_ends, .inl (cI, 24, .inl ends)), (h_now, .inr (3, [.int cl, .int ea, .int on])), (h_per, .inr (2, [.ref h_hol, .int pg])), (h_hol, .inl (cI, 10, .inl hol)), (h_aft, .inr (3, [.int ac, .int ae, .int ao]))]) (rv := fun u => some (.int u.1)) ⟨hx, hb, hml, hown, hts⟩ (kX4_reason l hl0 D cI cZ cL H.size h_x a_don a_wri a_tho h_net h_ends h_now h_per h_hol h_aft nc sc br so lo ends cl ea on pg hol ac ae ao p0 p1 N hq) (cwV 2 hts gL_reason_X4_reason rfl rfl rfl (by decide +kernel) ⟨Nat.le_of_ble_eq_true rfl, Nat.le_of_ble_eq_true rfl⟩) hP hD hS hA hKK hKS hKZ [0, 1, 2, 3, 4, 5, 6] [] [0, 1, 2, 3, 4, 5, 6] rfl rfl (by decide) (by decide) (fun _ => rfl) rfl (by decide) (by decide) (va_recv hK hP (ci := 4) (q0 := 0) rfl rfl) rfl hl.1 rfl (Nat.le_of_ble_eq_true rfl) dL_reason_3 ⟨Nat.le_of_ble_eq_true rfl, Nat.le_of_ble_eq_true rfl⟩ (fun E ce q9 H locs hE hP hD hS h1 h2 h3 => ?_) (fun u H locs hu hP hD hS => ?_)
  · have h := hx1 E hE
    by_cases c0 : E = "java/lang/IllegalArgumentException"
    · have h := it_t h c0
      subst c0
      cases h
      refine vx_catch (own := RL) (name := "java/lang/IllegalArgumentException") hown [] ⟨0, 7, 10, 22⟩ [⟨0, 7, 15, 20⟩] htab (fun z hz => absurd hz List.not_mem_nil) (by decide) (by decide) (hts _ lkL_reason_0) (va_Nw.use rfl (hKS.2 (.castable "java/lang/IllegalArgumentException" "java/lang/IllegalArgumentException") (by decide +kernel))) h1 h2 h3 ?_
      refine lv_astore (lv' := [(4, .ref q9), (0, .ref h_x), (1, .int p0), (2, .int p1)]) hx hb dL_reason_10 hl (by decide) rfl (fun ls hl => ?_)
      refine lv_bipush (v := (-71)) hx hb dL_reason_12 (by decide) ?_
      rw [hQQ]
      refine W.widen (k := 1) (n := 6) (Nat.le_of_ble_eq_true rfl) (Nat.le_of_ble_eq_true rfl) ?_
      exact W.iret hx hb hr (fun t ht hW => ⟨rfl, by rw [ht]; exact hP, hD, hS.F ht⟩) hS.2.2 dL_reason_14
    have h := it_f h c0
    by_cases c1 : E = "java/lang/IndexOutOfBoundsException"
    · have h := it_t h c1
      subst c1
      cases h
      refine vx_catch (own := RL) (name := "java/lang/IndexOutOfBoundsException") hown [⟨0, 7, 10, 22⟩] ⟨0, 7, 15, 20⟩ [] htab (List.forall_mem_cons.mpr ⟨Or.inr ⟨by decide, ⟨"java/lang/IllegalArgumentException", hts _ lkL_reason_0, hKX ("java/lang/IndexOutOfBoundsException", "java/lang/IllegalArgumentException") (by decide)⟩⟩, (fun z hz => absurd hz List.not_mem_nil)⟩) (by decide) (by decide) (hts _ lkL_reason_1) (va_Nw.use rfl (hKS.2 (.castable "java/lang/IndexOutOfBoundsException" "java/lang/IndexOutOfBoundsException") (by decide +kernel))) h1 h2 h3 ?_
      refine lv_astore (lv' := [(4, .ref q9), (0, .ref h_x), (1, .int p0), (2, .int p1)]) hx hb dL_reason_15 hl (by decide) rfl (fun ls hl => ?_)
      refine lv_bipush (v := (-72)) hx hb dL_reason_17 (by decide) ?_
      rw [hQQ]
      refine W.widen (k := 1) (n := 6) (Nat.le_of_ble_eq_true rfl) (Nat.le_of_ble_eq_true rfl) ?_
      exact W.iret hx hb hr (fun t ht hW => ⟨rfl, by rw [ht]; exact hP, hD, hS.F ht⟩) hS.2.2 dL_reason_19
    have h := it_f h c1
    cases h
  · obtain ⟨v, w0, w1, w2⟩ := u
    have h := hk1 _ _ _ _ hu
    have hP : va_P D vwCl [(h_x, .inr (4, [.ref h_net, .ref h_now, .ref a_don, .ref a_wri, .ref h_per, .ref a_tho, .ref h_aft])), (h_net, .inr (1, [.ref h_ends, .int nc, .int sc, .int br, .int so, .int lo])), (h_ends, .inl (cI, 24, .inl ends)), (h_now, .inr (3, [.int cl, .int ea, .int on])), (h_per, .inr (2, [.ref h_hol, .int pg])), (h_hol, .inl (cI, 10, .inl hol)), (h_aft, .inr (3, [.int w0, .int w1, .int w2]))] H := hP
    have hD : va_D A [(h_x, .inr (4, [.ref h_net, .ref h_now, .ref a_don, .ref a_wri, .ref h_per, .ref a_tho, .ref h_aft])), (h_net, .inr (1, [.ref h_ends, .int nc, .int sc, .int br, .int so, .int lo])), (h_ends, .inl (cI, 24, .inl ends)), (h_now, .inr (3, [.int cl, .int ea, .int on])), (h_per, .inr (2, [.ref h_hol, .int pg])), (h_hol, .inl (cI, 10, .inl hol)), (h_aft, .inr (3, [.int w0, .int w1, .int w2]))] := hD
    show W p l e _ s m _ below meth c H locs _ _ QQ (F0 m 6 ls (.int v :: []))
    refine lv_istore_n (lv' := [(3, .int v), (0, .ref h_x), (1, .int p0), (2, .int p1)]) hx hb dL_reason_6 rfl hl (by decide) rfl (fun ls hl => ?_)
    refine lv_goto (tgt := 20) hx hb dL_reason_7 (by decide) ?_
    refine lv_iload_n hx hb dL_reason_20 rfl (lv_at hl 0 rfl) ?_
    cases h
    rw [hQQ]
    refine W.widen (k := 1) (n := 6) (Nat.le_of_ble_eq_true rfl) (Nat.le_of_ble_eq_true rfl) ?_
    exact W.iret hx hb hr (fun t ht hW => ⟨rfl, by rw [ht]; exact hP, hD, hS.F ht⟩) hS.2.2 dL_reason_21

def fL_takeBack (N : Nat) (nc : Int32) (sc : Int32) (br : Int32) (so : Int32) (lo : Int32) (ends : Nat → Int32) (cl : Int32) (ea : Int32) (on : Int32) (ds : Int32) (dac : Nat → Int32) (pg : Int32) (hol : Nat → Int32) (ac : Int32) (ae : Int32) (ao : Int32)  : Option ((Int32) × (Int32) × (Int32) × (Int32) × (Int32) × (Int32) × (Int32) × (Int32)) :=
  bh8 (fX4_takeBack N nc sc br so lo ends cl ea on ds dac pg hol ac ae ao) (fun E => (if E = "java/lang/IllegalStateException" then some ((-73), cl, ea, on, ds, ac, ae, ao) else none)) (fun v w0 w1 w2 w3 w4 w5 w6 => some (v, w0, w1, w2, w3, w4, w5, w6))
set_option maxRecDepth 100000 in
theorem lkL_takeBack_0 : (.classLink RL 14 "java/lang/IllegalStateException" : Cond) ∈ wsL_takeBack := by decide +kernel
abbrev rmL_takeBack : Room := { frames := 7, cells := 1, slots := 6, locals := 141 }
set_option maxHeartbeats 4000000 in
set_option maxRecDepth 100000 in
theorem kL_takeBack (l : Launch) (hl0 : l.stackTraces = false) (D : va_G) (cI cZ cL : ClassId) (sz0 : Nat) (h_x a_wri a_tho h_net h_ends h_now h_don h_dac h_per h_hol h_aft : Nat) (nc : Int32) (sc : Int32) (br : Int32) (so : Int32) (lo : Int32) (ends : Nat → Int32) (cl : Int32) (ea : Int32) (on : Int32) (ds : Int32) (dac : Nat → Int32) (pg : Int32) (hol : Nat → Int32) (ac : Int32) (ae : Int32) (ao : Int32)  (N : Nat) {r : Int32} {r_0 : Int32} {r_1 : Int32} {r_2 : Int32} {r_3 : Int32} {r_4 : Int32} {r_5 : Int32} {r_6 : Int32} (h : fL_takeBack N nc sc br so lo ends cl ea on ds dac pg hol ac ae ao = some (r, r_0, r_1, r_2, r_3, r_4, r_5, r_6)) : Met l yL_takeBack wsL_takeBack rmL_takeBack (PH D cI cZ cL [.ref h_x] [(h_x, .inr (4, [.ref h_net, .ref h_now, .ref h_don, .ref a_wri, .ref h_per, .ref a_tho, .ref h_aft])), (h_net, .inr (1, [.ref h_ends, .int nc, .int sc, .int br, .int so, .int lo])), (h_ends, .inl (cI, 24, .inl ends)), (h_now, .inr (3, [.int cl, .int ea, .int on])), (h_don, .inr (0, [.ref h_dac, .int ds])), (h_dac, .inl (cI, 200, .inl dac)), (h_per, .inr (2, [.ref h_hol, .int pg])), (h_hol, .inl (cI, 10, .inl hol)), (h_aft, .inr (3, [.int ac, .int ae, .int ao]))] sz0) (QM D (some (.int r)) (va_A [(h_x, .inr (4, [.ref h_net, .ref h_now, .ref h_don, .ref a_wri, .ref h_per, .ref a_tho, .ref h_aft])), (h_net, .inr (1, [.ref h_ends, .int nc, .int sc, .int br, .int so, .int lo])), (h_ends, .inl (cI, 24, .inl ends)), (h_now, .inr (3, [.int cl, .int ea, .int on])), (h_don, .inr (0, [.ref h_dac, .int ds])), (h_dac, .inl (cI, 200, .inl dac)), (h_per, .inr (2, [.ref h_hol, .int pg])), (h_hol, .inl (cI, 10, .inl hol)), (h_aft, .inr (3, [.int ac, .int ae, .int ao]))] sz0) [(h_x, .inr (4, [.ref h_net, .ref h_now, .ref h_don, .ref a_wri, .ref h_per, .ref a_tho, .ref h_aft])), (h_net, .inr (1, [.ref h_ends, .int nc, .int sc, .int br, .int so, .int lo])), (h_ends, .inl (cI, 24, .inl ends)), (h_now, .inr (3, [.int r_0, .int r_1, .int r_2])), (h_don, .inr (0, [.ref h_dac, .int r_3])), (h_dac, .inl (cI, 200, .inl dac)), (h_per, .inr (2, [.ref h_hol, .int pg])), (h_hol, .inl (cI, 10, .inl hol)), (h_aft, .inr (3, [.int r_4, .int r_5, .int r_6]))]) 1 6 (va_A [(h_x, .inr (4, [.ref h_net, .ref h_now, .ref h_don, .ref a_wri, .ref h_per, .ref a_tho, .ref h_aft])), (h_net, .inr (1, [.ref h_ends, .int nc, .int sc, .int br, .int so, .int lo])), (h_ends, .inl (cI, 24, .inl ends)), (h_now, .inr (3, [.int cl, .int ea, .int on])), (h_don, .inr (0, [.ref h_dac, .int ds])), (h_dac, .inl (cI, 200, .inl dac)), (h_per, .inr (2, [.ref h_hol, .int pg])), (h_hol, .inl (cI, 10, .inl hol)), (h_aft, .inr (3, [.int ac, .int ae, .int ao]))] sz0) := by
  refine zz_ofWH (cc := cL_takeBack) (maxL := 3) (ret := (some .int)) (hh := [(0, 5, 8, 14)]) (by decide) rfl ?_
  intro p e s m args below meth c s₁ B hml hv
  obtain ⟨rfl, hsz, hP, hKK, hD0, hKS, hKZ, hKX⟩ := hv
  have hK := hKK.1
  have hx := B.exec
  have hb := B.bytes
  have hr := B.returns
  have hts := atoms_spec (ws := wsL_takeBack) B.pre
  have hown : s.vm.findClass RL = some m.cls := findClass_of_methodNamed B.named
  have hlocks := B.notSynchronized
  have htab : c.exceptionTable.toList = [⟨0, 5, 8, 14⟩] := (vx_table (x := yL_takeBack) B (hts (.codeWith yL_takeBack cL_takeBack 3 (some .int) [(0, 5, 8, 14)]) List.mem_cons_self)).trans rfl
  subst hsz
  have hD := hD0.self (sz := s.heap.size)
  generalize hAe : va_A [(h_x, .inr (4, [.ref h_net, .ref h_now, .ref h_don, .ref a_wri, .ref h_per, .ref a_tho, .ref h_aft])), (h_net, .inr (1, [.ref h_ends, .int nc, .int sc, .int br, .int so, .int lo])), (h_ends, .inl (cI, 24, .inl ends)), (h_now, .inr (3, [.int cl, .int ea, .int on])), (h_don, .inr (0, [.ref h_dac, .int ds])), (h_dac, .inl (cI, 200, .inl dac)), (h_per, .inr (2, [.ref h_hol, .int pg])), (h_hol, .inl (cI, 10, .inl hol)), (h_aft, .inr (3, [.int ac, .int ae, .int ao]))] s.heap.size = A at hD hKZ ⊢
  have hA : ∀ q : Nat, s.heap.size ≤ q → A q := fun q h => by rw [← hAe]; exact Or.inr h
  have hS : va_S A s.heap s.heap [] := va_S.rf
  have hl := lv_entry ([.ref h_x]) (n := 3) (Nat.le_of_ble_eq_true rfl)
  rw [lg_entry_eq]
  generalize (lg_sl ([.ref h_x]) ++ List.replicate (3 - (lg_sl ([.ref h_x])).length) Slot.unset).toArray = ls at hl ⊢
  have hl : lv_has ls 3 [(0, .ref h_x)] := hl
  obtain ⟨QQ, hQQ⟩ : ∃ Z, Z = MQ below (QM D (some (.int r)) A [(h_x, .inr (4, [.ref h_net, .ref h_now, .ref h_don, .ref a_wri, .ref h_per, .ref a_tho, .ref h_aft])), (h_net, .inr (1, [.ref h_ends, .int nc, .int sc, .int br, .int so, .int lo])), (h_ends, .inl (cI, 24, .inl ends)), (h_now, .inr (3, [.int r_0, .int r_1, .int r_2])), (h_don, .inr (0, [.ref h_dac, .int r_3])), (h_dac, .inl (cI, 200, .inl dac)), (h_per, .inr (2, [.ref h_hol, .int pg])), (h_hol, .inl (cI, 10, .inl hol)), (h_aft, .inr (3, [.int r_4, .int r_5, .int r_6]))]) ([.ref h_x] : List Value).toArray s 1 6 A := ⟨_, rfl⟩
  rw [← hQQ]
  obtain ⟨H, locs, hHe, hLe⟩ : ∃ (H : Heap) (locs : List Loc), H = s.heap ∧ locs = [] := ⟨_, _, rfl, rfl⟩
  have hP : va_P D vwCl [(h_x, .inr (4, [.ref h_net, .ref h_now, .ref h_don, .ref a_wri, .ref h_per, .ref a_tho, .ref h_aft])), (h_net, .inr (1, [.ref h_ends, .int nc, .int sc, .int br, .int so, .int lo])), (h_ends, .inl (cI, 24, .inl ends)), (h_now, .inr (3, [.int cl, .int ea, .int on])), (h_don, .inr (0, [.ref h_dac, .int ds])), (h_dac, .inl (cI, 200, .inl dac)), (h_per, .inr (2, [.ref h_hol, .int pg])), (h_hol, .inl (cI, 10, .inl hol)), (h_aft, .inr (3, [.int ac, .int ae, .int ao]))] H := by rw [hHe]; exact hP
  have hS : va_S A s.heap H locs := by rw [hHe, hLe]; exact hS
  have hW0 : ∀ QQ : State → Prop, W p l e (headSpec wsL_takeBack rmL_takeBack).room s m (([.ref h_x] : List Value).toArray) below meth c H locs 0 0 QQ (F0 m 0 ls []) → W p l e (headSpec wsL_takeBack rmL_takeBack).room s m (([.ref h_x] : List Value).toArray) below meth c s.heap [] 0 0 QQ (F0 m 0 ls []) := by rw [hHe, hLe]; exact fun _ h => h
  refine hW0 _ ?_
  clear hW0
  unfold fL_takeBack at h
  refine lv_aload_n hx hb dL_takeBack_0 rfl (lv_at hl 0 rfl) ?_
  obtain ⟨Rr, hq, hx1, hk1⟩ := bh8_r h
  refine zz_xV (As := []) (wr := []) (w1 := fun u : (Int32) × (Int32) × (Int32) × (Int32) × (Int32) × (Int32) × (Int32) × (Int32) => [(h_x, .inr (4, [.ref h_net, .ref h_now, .ref h_don, .ref a_wri, .ref h_per, .ref a_tho, .ref h_aft])), (h_net, .inr (1, [.ref h_ends, .int nc, .int sc, .int br, .int so, .int lo])), (h_ends, .inl (cI, 24, .inl ends)), (h_now, .inr (3, [.int u.2.1, .int u.2.2.1, .int u.2.2.2.1])), (h_don, .inr (0, [.ref h_dac, .int u.2.2.2.2.1])), (h_dac, .inl (cI, 200, .inl dac)), (h_per, .inr (2, [.ref h_hol, .int pg])), (h_hol, .inl (cI, 10, .inl hol)), (h_aft, .inr (3, [.int u.2.2.2.2.2.1, .int u.2.2.2.2.2.2.1, .int u.2.2.2.2.2.2.2]))]) (wt' := fun u : (Int32) × (Int32) × (Int32) × (Int32) × (Int32) × (Int32) × (Int32) × (Int32) => [(h_x, .inr (4, [.ref h_net, .ref h_now, .ref h_don, .ref a_wri, .ref h_per, .ref a_tho, .ref h_aft])), (h_net, .inr (1, [.ref h_ends, .int nc, .int sc, .int br, .int so, .int lo])), (h_ends, .inl (cI, 24, .inl ends)), (h_now, .inr (3, [.int u.2.1, .int u.2.2.1, .int u.2.2.2.1])), (h_don, .inr (0, [.ref h_dac, .int u.2.2.2.2.1])), (h_dac, .inl (cI, 200, .inl dac)), (h_per, .inr (2, [.ref h_hol, .int pg])), (h_hol, .inl (cI, 10, .inl hol)), (h_aft, .inr (3, [.int u.2.2.2.2.2.1, .int u.2.2.2.2.2.2.1, .int u.2.2.2.2.2.2.2]))]) (wc := [(h_x, .inr (4, [.ref h_net, .ref h_now, .ref h_don, .ref a_wri, .ref h_per, .ref a_tho, .ref h_aft])), (h_net, .inr (1, [.ref h_ends, .int nc, .int sc, .int br, .int so, .int lo])), (h_ends, .inl (cI, 24, .inl ends)), (h_now, .inr (3, [.int cl, .int ea, .int on])), (h_don, .inr (0, [.ref h_dac, .int ds])), (h_dac, .inl (cI, 200, .inl dac)), (h_per, .inr (2, [.ref h_hol, .int pg])), (h_hol, .inl (cI, 10, .inl hol)), (h_aft, .inr (3, [.int ac, .int ae, .int ao]))]) (rv := fun u => some (.int u.1)) ⟨hx, hb, hml, hown, hts⟩ (kX4_takeBack l hl0 D cI cZ cL H.size h_x a_wri a_tho h_net h_ends h_now h_don h_dac h_per h_hol h_aft nc sc br so lo ends cl ea on ds dac pg hol ac ae ao N hq) (cwV 0 hts gL_takeBack_X4_takeBack rfl rfl rfl (by decide +kernel) ⟨Nat.le_of_ble_eq_true rfl, Nat.le_of_ble_eq_true rfl⟩) hP hD hS hA hKK hKS hKZ [0, 1, 2, 3, 4, 5, 6, 7, 8] [] [0, 1, 2, 3, 4, 5, 6, 7, 8] rfl rfl (by decide) (by decide) (fun _ => rfl) rfl (by decide) (by decide) (va_recv hK hP (ci := 4) (q0 := 0) rfl rfl) rfl hl.1 rfl (Nat.le_of_ble_eq_true rfl) dL_takeBack_1 ⟨Nat.le_of_ble_eq_true rfl, Nat.le_of_ble_eq_true rfl⟩ (fun E ce q9 H locs hE hP hD hS h1 h2 h3 => ?_) (fun u H locs hu hP hD hS => ?_)
  · have h := hx1 E hE
    by_cases c0 : E = "java/lang/IllegalStateException"
    · have h := it_t h c0
      subst c0
      cases h
      refine vx_catch (own := RL) (name := "java/lang/IllegalStateException") hown [] ⟨0, 5, 8, 14⟩ [] htab (fun z hz => absurd hz List.not_mem_nil) (by decide) (by decide) (hts _ lkL_takeBack_0) (va_Nw.use rfl (hKS.2 (.castable "java/lang/IllegalStateException" "java/lang/IllegalStateException") (by decide +kernel))) h1 h2 h3 ?_
      refine lv_astore_n (lv' := [(2, .ref q9), (0, .ref h_x)]) hx hb dL_takeBack_8 rfl hl (by decide) rfl (fun ls hl => ?_)
      refine lv_bipush (v := (-73)) hx hb dL_takeBack_9 (by decide) ?_
      rw [hQQ]
      refine W.widen (k := 1) (n := 6) (Nat.le_of_ble_eq_true rfl) (Nat.le_of_ble_eq_true rfl) ?_
      exact W.iret hx hb hr (fun t ht hW => ⟨rfl, by rw [ht]; exact hP, hD, hS.F ht⟩) hS.2.2 dL_takeBack_11
    have h := it_f h c0
    cases h
  · obtain ⟨v, w0, w1, w2, w3, w4, w5, w6⟩ := u
    have h := hk1 _ _ _ _ _ _ _ _ hu
    have hP : va_P D vwCl [(h_x, .inr (4, [.ref h_net, .ref h_now, .ref h_don, .ref a_wri, .ref h_per, .ref a_tho, .ref h_aft])), (h_net, .inr (1, [.ref h_ends, .int nc, .int sc, .int br, .int so, .int lo])), (h_ends, .inl (cI, 24, .inl ends)), (h_now, .inr (3, [.int w0, .int w1, .int w2])), (h_don, .inr (0, [.ref h_dac, .int w3])), (h_dac, .inl (cI, 200, .inl dac)), (h_per, .inr (2, [.ref h_hol, .int pg])), (h_hol, .inl (cI, 10, .inl hol)), (h_aft, .inr (3, [.int w4, .int w5, .int w6]))] H := hP
    have hD : va_D A [(h_x, .inr (4, [.ref h_net, .ref h_now, .ref h_don, .ref a_wri, .ref h_per, .ref a_tho, .ref h_aft])), (h_net, .inr (1, [.ref h_ends, .int nc, .int sc, .int br, .int so, .int lo])), (h_ends, .inl (cI, 24, .inl ends)), (h_now, .inr (3, [.int w0, .int w1, .int w2])), (h_don, .inr (0, [.ref h_dac, .int w3])), (h_dac, .inl (cI, 200, .inl dac)), (h_per, .inr (2, [.ref h_hol, .int pg])), (h_hol, .inl (cI, 10, .inl hol)), (h_aft, .inr (3, [.int w4, .int w5, .int w6]))] := hD
    show W p l e _ s m _ below meth c H locs _ _ QQ (F0 m 4 ls (.int v :: []))
    refine lv_istore_n (lv' := [(1, .int v), (0, .ref h_x)]) hx hb dL_takeBack_4 rfl hl (by decide) rfl (fun ls hl => ?_)
    refine lv_goto (tgt := 12) hx hb dL_takeBack_5 (by decide) ?_
    refine lv_iload_n hx hb dL_takeBack_12 rfl (lv_at hl 0 rfl) ?_
    cases h
    rw [hQQ]
    refine W.widen (k := 1) (n := 6) (Nat.le_of_ble_eq_true rfl) (Nat.le_of_ble_eq_true rfl) ?_
    exact W.iret hx hb hr (fun t ht hW => ⟨rfl, by rw [ht]; exact hP, hD, hS.F ht⟩) hS.2.2 dL_takeBack_13

def fL_logged (N : Nat) (ds : Int32) (dac : Nat → Int32) (p0 : Int32) : Option ((Int32)) :=
  bh1 (fX4_logged N ds dac p0) (fun E => (if E = "java/lang/IndexOutOfBoundsException" then some (-72) else none)) (fun v => some v)
set_option maxRecDepth 100000 in
theorem lkL_logged_0 : (.classLink RL 20 "java/lang/IndexOutOfBoundsException" : Cond) ∈ wsL_logged := by decide +kernel
abbrev rmL_logged : Room := { frames := 7, cells := 1, slots := 6, locals := 103 }
set_option maxHeartbeats 4000000 in
set_option maxRecDepth 100000 in
theorem kL_logged (l : Launch) (hl0 : l.stackTraces = false) (D : va_G) (cI cZ cL : ClassId) (sz0 : Nat) (h_x a_net a_now a_wri a_per a_tho a_aft h_don h_dac : Nat) (ds : Int32) (dac : Nat → Int32) (p0 : Int32) (N : Nat) {r : Int32} (h : fL_logged N ds dac p0 = some r) : Met l yL_logged wsL_logged rmL_logged (PH D cI cZ cL [.ref h_x, .int p0] [(h_x, .inr (4, [.ref a_net, .ref a_now, .ref h_don, .ref a_wri, .ref a_per, .ref a_tho, .ref a_aft])), (h_don, .inr (0, [.ref h_dac, .int ds])), (h_dac, .inl (cI, 200, .inl dac))] sz0) (QM D (some (.int r)) (va_A [(h_x, .inr (4, [.ref a_net, .ref a_now, .ref h_don, .ref a_wri, .ref a_per, .ref a_tho, .ref a_aft])), (h_don, .inr (0, [.ref h_dac, .int ds])), (h_dac, .inl (cI, 200, .inl dac))] sz0) [(h_x, .inr (4, [.ref a_net, .ref a_now, .ref h_don, .ref a_wri, .ref a_per, .ref a_tho, .ref a_aft])), (h_don, .inr (0, [.ref h_dac, .int ds])), (h_dac, .inl (cI, 200, .inl dac))]) 1 6 (va_A [(h_x, .inr (4, [.ref a_net, .ref a_now, .ref h_don, .ref a_wri, .ref a_per, .ref a_tho, .ref a_aft])), (h_don, .inr (0, [.ref h_dac, .int ds])), (h_dac, .inl (cI, 200, .inl dac))] sz0) := by
  refine zz_ofWH (cc := cL_logged) (maxL := 4) (ret := (some .int)) (hh := [(0, 6, 9, 20)]) (by decide) rfl ?_
  intro p e s m args below meth c s₁ B hml hv
  obtain ⟨rfl, hsz, hP, hKK, hD0, hKS, hKZ, hKX⟩ := hv
  have hK := hKK.1
  have hx := B.exec
  have hb := B.bytes
  have hr := B.returns
  have hts := atoms_spec (ws := wsL_logged) B.pre
  have hown : s.vm.findClass RL = some m.cls := findClass_of_methodNamed B.named
  have hlocks := B.notSynchronized
  have htab : c.exceptionTable.toList = [⟨0, 6, 9, 20⟩] := (vx_table (x := yL_logged) B (hts (.codeWith yL_logged cL_logged 4 (some .int) [(0, 6, 9, 20)]) List.mem_cons_self)).trans rfl
  subst hsz
  have hD := hD0.self (sz := s.heap.size)
  generalize hAe : va_A [(h_x, .inr (4, [.ref a_net, .ref a_now, .ref h_don, .ref a_wri, .ref a_per, .ref a_tho, .ref a_aft])), (h_don, .inr (0, [.ref h_dac, .int ds])), (h_dac, .inl (cI, 200, .inl dac))] s.heap.size = A at hD hKZ ⊢
  have hA : ∀ q : Nat, s.heap.size ≤ q → A q := fun q h => by rw [← hAe]; exact Or.inr h
  have hS : va_S A s.heap s.heap [] := va_S.rf
  have hl := lv_entry ([.ref h_x, .int p0]) (n := 4) (Nat.le_of_ble_eq_true rfl)
  rw [lg_entry_eq]
  generalize (lg_sl ([.ref h_x, .int p0]) ++ List.replicate (4 - (lg_sl ([.ref h_x, .int p0])).length) Slot.unset).toArray = ls at hl ⊢
  have hl : lv_has ls 4 [(0, .ref h_x), (1, .int p0)] := hl
  obtain ⟨QQ, hQQ⟩ : ∃ Z, Z = MQ below (QM D (some (.int r)) A [(h_x, .inr (4, [.ref a_net, .ref a_now, .ref h_don, .ref a_wri, .ref a_per, .ref a_tho, .ref a_aft])), (h_don, .inr (0, [.ref h_dac, .int ds])), (h_dac, .inl (cI, 200, .inl dac))]) ([.ref h_x, .int p0] : List Value).toArray s 1 6 A := ⟨_, rfl⟩
  rw [← hQQ]
  obtain ⟨H, locs, hHe, hLe⟩ : ∃ (H : Heap) (locs : List Loc), H = s.heap ∧ locs = [] := ⟨_, _, rfl, rfl⟩
  have hP : va_P D vwCl [(h_x, .inr (4, [.ref a_net, .ref a_now, .ref h_don, .ref a_wri, .ref a_per, .ref a_tho, .ref a_aft])), (h_don, .inr (0, [.ref h_dac, .int ds])), (h_dac, .inl (cI, 200, .inl dac))] H := by rw [hHe]; exact hP
  have hS : va_S A s.heap H locs := by rw [hHe, hLe]; exact hS
  have hW0 : ∀ QQ : State → Prop, W p l e (headSpec wsL_logged rmL_logged).room s m (([.ref h_x, .int p0] : List Value).toArray) below meth c H locs 0 0 QQ (F0 m 0 ls []) → W p l e (headSpec wsL_logged rmL_logged).room s m (([.ref h_x, .int p0] : List Value).toArray) below meth c s.heap [] 0 0 QQ (F0 m 0 ls []) := by rw [hHe, hLe]; exact fun _ h => h
  refine hW0 _ ?_
  clear hW0
  unfold fL_logged at h
  refine lv_aload_n hx hb dL_logged_0 rfl (lv_at hl 0 rfl) ?_
  refine lv_iload_n hx hb dL_logged_1 rfl (lv_at hl 1 rfl) ?_
  obtain ⟨Rr, hq, hx1, hk1⟩ := bh1_r h
  refine zz_xV (As := [.int p0]) (wr := []) (w1 := fun u : (Int32) => [(h_x, .inr (4, [.ref a_net, .ref a_now, .ref h_don, .ref a_wri, .ref a_per, .ref a_tho, .ref a_aft])), (h_don, .inr (0, [.ref h_dac, .int ds])), (h_dac, .inl (cI, 200, .inl dac))]) (wt' := fun u : (Int32) => [(h_x, .inr (4, [.ref a_net, .ref a_now, .ref h_don, .ref a_wri, .ref a_per, .ref a_tho, .ref a_aft])), (h_don, .inr (0, [.ref h_dac, .int ds])), (h_dac, .inl (cI, 200, .inl dac))]) (wc := [(h_x, .inr (4, [.ref a_net, .ref a_now, .ref h_don, .ref a_wri, .ref a_per, .ref a_tho, .ref a_aft])), (h_don, .inr (0, [.ref h_dac, .int ds])), (h_dac, .inl (cI, 200, .inl dac))]) (rv := fun u => some (.int u)) ⟨hx, hb, hml, hown, hts⟩ (kX4_logged l hl0 D cI cZ cL H.size h_x a_net a_now a_wri a_per a_tho a_aft h_don h_dac ds dac p0 N hq) (cwV 1 hts gL_logged_X4_logged rfl rfl rfl (by decide +kernel) ⟨Nat.le_of_ble_eq_true rfl, Nat.le_of_ble_eq_true rfl⟩) hP hD hS hA hKK hKS hKZ [0, 1, 2] [] [0, 1, 2] rfl rfl (by decide) (by decide) (fun _ => rfl) rfl (by decide) (by decide) (va_recv hK hP (ci := 4) (q0 := 0) rfl rfl) rfl hl.1 rfl (Nat.le_of_ble_eq_true rfl) dL_logged_2 ⟨Nat.le_of_ble_eq_true rfl, Nat.le_of_ble_eq_true rfl⟩ (fun E ce q9 H locs hE hP hD hS h1 h2 h3 => ?_) (fun u H locs hu hP hD hS => ?_)
  · have h := hx1 E hE
    by_cases c0 : E = "java/lang/IndexOutOfBoundsException"
    · have h := it_t h c0
      subst c0
      cases h
      refine vx_catch (own := RL) (name := "java/lang/IndexOutOfBoundsException") hown [] ⟨0, 6, 9, 20⟩ [] htab (fun z hz => absurd hz List.not_mem_nil) (by decide) (by decide) (hts _ lkL_logged_0) (va_Nw.use rfl (hKS.2 (.castable "java/lang/IndexOutOfBoundsException" "java/lang/IndexOutOfBoundsException") (by decide +kernel))) h1 h2 h3 ?_
      refine lv_astore_n (lv' := [(3, .ref q9), (0, .ref h_x), (1, .int p0)]) hx hb dL_logged_9 rfl hl (by decide) rfl (fun ls hl => ?_)
      refine lv_bipush (v := (-72)) hx hb dL_logged_10 (by decide) ?_
      rw [hQQ]
      refine W.widen (k := 1) (n := 6) (Nat.le_of_ble_eq_true rfl) (Nat.le_of_ble_eq_true rfl) ?_
      exact W.iret hx hb hr (fun t ht hW => ⟨rfl, by rw [ht]; exact hP, hD, hS.F ht⟩) hS.2.2 dL_logged_12
    have h := it_f h c0
    cases h
  · obtain ⟨v, rfl⟩ : ∃ z, z = u := ⟨_, rfl⟩
    have h := hk1 _ hu
    have hP : va_P D vwCl [(h_x, .inr (4, [.ref a_net, .ref a_now, .ref h_don, .ref a_wri, .ref a_per, .ref a_tho, .ref a_aft])), (h_don, .inr (0, [.ref h_dac, .int ds])), (h_dac, .inl (cI, 200, .inl dac))] H := hP
    have hD : va_D A [(h_x, .inr (4, [.ref a_net, .ref a_now, .ref h_don, .ref a_wri, .ref a_per, .ref a_tho, .ref a_aft])), (h_don, .inr (0, [.ref h_dac, .int ds])), (h_dac, .inl (cI, 200, .inl dac))] := hD
    show W p l e _ s m _ below meth c H locs _ _ QQ (F0 m 5 ls (.int v :: []))
    refine lv_istore_n (lv' := [(2, .int v), (0, .ref h_x), (1, .int p0)]) hx hb dL_logged_5 rfl hl (by decide) rfl (fun ls hl => ?_)
    refine lv_goto (tgt := 13) hx hb dL_logged_6 (by decide) ?_
    refine lv_iload_n hx hb dL_logged_13 rfl (lv_at hl 0 rfl) ?_
    cases h
    rw [hQQ]
    refine W.widen (k := 1) (n := 6) (Nat.le_of_ble_eq_true rfl) (Nat.le_of_ble_eq_true rfl) ?_
    exact W.iret hx hb hr (fun t ht hW => ⟨rfl, by rw [ht]; exact hP, hD, hS.F ht⟩) hS.2.2 dL_logged_14

def fL_write (N : Nat) (nc : Int32) (sc : Int32) (br : Int32) (so : Int32) (lo : Int32) (rs : Int32) (rac : Nat → Int32) (p0 : Int32) (p1 : Int32) : Option ((Int32) × (Int32) × (Nat → Int32)) :=
  bh3 (fX4_write N nc sc br so lo rs rac p0 p1) (fun E => (if E = "java/lang/IllegalArgumentException" then some ((-71), rs, rac) else (if E = "java/lang/IndexOutOfBoundsException" then some ((-72), rs, rac) else (if E = "java/lang/IllegalStateException" then some ((-73), rs, rac) else none)))) (fun v w0 w1 => some (v, w0, w1))
set_option maxRecDepth 100000 in
theorem lkL_write_0 : (.classLink RL 22 "java/lang/IllegalArgumentException" : Cond) ∈ wsL_write := by decide +kernel
set_option maxRecDepth 100000 in
theorem lkL_write_1 : (.classLink RL 20 "java/lang/IndexOutOfBoundsException" : Cond) ∈ wsL_write := by decide +kernel
set_option maxRecDepth 100000 in
theorem lkL_write_2 : (.classLink RL 14 "java/lang/IllegalStateException" : Cond) ∈ wsL_write := by decide +kernel
abbrev rmL_write : Room := { frames := 8, cells := 2, slots := 12, locals := 126 }
set_option maxHeartbeats 4000000 in
set_option maxRecDepth 100000 in
theorem kL_write (l : Launch) (hl0 : l.stackTraces = false) (D : va_G) (cI cZ cL : ClassId) (sz0 : Nat) (h_x a_now a_don a_per a_tho a_aft h_net a_ends h_wri h_rac : Nat) (nc : Int32) (sc : Int32) (br : Int32) (so : Int32) (lo : Int32) (rs : Int32) (rac : Nat → Int32) (p0 : Int32) (p1 : Int32) (N : Nat) {r : Int32} {r_0 : Int32} {r_1 : Nat → Int32} (h : fL_write N nc sc br so lo rs rac p0 p1 = some (r, r_0, r_1)) : Met l yL_write wsL_write rmL_write (PH D cI cZ cL [.ref h_x, .int p0, .int p1] [(h_x, .inr (4, [.ref h_net, .ref a_now, .ref a_don, .ref h_wri, .ref a_per, .ref a_tho, .ref a_aft])), (h_net, .inr (1, [.ref a_ends, .int nc, .int sc, .int br, .int so, .int lo])), (h_wri, .inr (0, [.ref h_rac, .int rs])), (h_rac, .inl (cI, 30, .inl rac))] sz0) (QM D (some (.int r)) (va_A [(h_x, .inr (4, [.ref h_net, .ref a_now, .ref a_don, .ref h_wri, .ref a_per, .ref a_tho, .ref a_aft])), (h_net, .inr (1, [.ref a_ends, .int nc, .int sc, .int br, .int so, .int lo])), (h_wri, .inr (0, [.ref h_rac, .int rs])), (h_rac, .inl (cI, 30, .inl rac))] sz0) [(h_x, .inr (4, [.ref h_net, .ref a_now, .ref a_don, .ref h_wri, .ref a_per, .ref a_tho, .ref a_aft])), (h_net, .inr (1, [.ref a_ends, .int nc, .int sc, .int br, .int so, .int lo])), (h_wri, .inr (0, [.ref h_rac, .int r_0])), (h_rac, .inl (cI, 30, .inl r_1))]) 2 12 (va_A [(h_x, .inr (4, [.ref h_net, .ref a_now, .ref a_don, .ref h_wri, .ref a_per, .ref a_tho, .ref a_aft])), (h_net, .inr (1, [.ref a_ends, .int nc, .int sc, .int br, .int so, .int lo])), (h_wri, .inr (0, [.ref h_rac, .int rs])), (h_rac, .inl (cI, 30, .inl rac))] sz0) := by
  refine zz_ofWH (cc := cL_write) (maxL := 5) (ret := (some .int)) (hh := [(0, 7, 10, 22), (0, 7, 15, 20), (0, 7, 20, 14)]) (by decide) rfl ?_
  intro p e s m args below meth c s₁ B hml hv
  obtain ⟨rfl, hsz, hP, hKK, hD0, hKS, hKZ, hKX⟩ := hv
  have hK := hKK.1
  have hx := B.exec
  have hb := B.bytes
  have hr := B.returns
  have hts := atoms_spec (ws := wsL_write) B.pre
  have hown : s.vm.findClass RL = some m.cls := findClass_of_methodNamed B.named
  have hlocks := B.notSynchronized
  have htab : c.exceptionTable.toList = [⟨0, 7, 10, 22⟩, ⟨0, 7, 15, 20⟩, ⟨0, 7, 20, 14⟩] := (vx_table (x := yL_write) B (hts (.codeWith yL_write cL_write 5 (some .int) [(0, 7, 10, 22), (0, 7, 15, 20), (0, 7, 20, 14)]) List.mem_cons_self)).trans rfl
  subst hsz
  have hD := hD0.self (sz := s.heap.size)
  generalize hAe : va_A [(h_x, .inr (4, [.ref h_net, .ref a_now, .ref a_don, .ref h_wri, .ref a_per, .ref a_tho, .ref a_aft])), (h_net, .inr (1, [.ref a_ends, .int nc, .int sc, .int br, .int so, .int lo])), (h_wri, .inr (0, [.ref h_rac, .int rs])), (h_rac, .inl (cI, 30, .inl rac))] s.heap.size = A at hD hKZ ⊢
  have hA : ∀ q : Nat, s.heap.size ≤ q → A q := fun q h => by rw [← hAe]; exact Or.inr h
  have hS : va_S A s.heap s.heap [] := va_S.rf
  have hl := lv_entry ([.ref h_x, .int p0, .int p1]) (n := 5) (Nat.le_of_ble_eq_true rfl)
  rw [lg_entry_eq]
  generalize (lg_sl ([.ref h_x, .int p0, .int p1]) ++ List.replicate (5 - (lg_sl ([.ref h_x, .int p0, .int p1])).length) Slot.unset).toArray = ls at hl ⊢
  have hl : lv_has ls 5 [(0, .ref h_x), (1, .int p0), (2, .int p1)] := hl
  obtain ⟨QQ, hQQ⟩ : ∃ Z, Z = MQ below (QM D (some (.int r)) A [(h_x, .inr (4, [.ref h_net, .ref a_now, .ref a_don, .ref h_wri, .ref a_per, .ref a_tho, .ref a_aft])), (h_net, .inr (1, [.ref a_ends, .int nc, .int sc, .int br, .int so, .int lo])), (h_wri, .inr (0, [.ref h_rac, .int r_0])), (h_rac, .inl (cI, 30, .inl r_1))]) ([.ref h_x, .int p0, .int p1] : List Value).toArray s 2 12 A := ⟨_, rfl⟩
  rw [← hQQ]
  obtain ⟨H, locs, hHe, hLe⟩ : ∃ (H : Heap) (locs : List Loc), H = s.heap ∧ locs = [] := ⟨_, _, rfl, rfl⟩
  have hP : va_P D vwCl [(h_x, .inr (4, [.ref h_net, .ref a_now, .ref a_don, .ref h_wri, .ref a_per, .ref a_tho, .ref a_aft])), (h_net, .inr (1, [.ref a_ends, .int nc, .int sc, .int br, .int so, .int lo])), (h_wri, .inr (0, [.ref h_rac, .int rs])), (h_rac, .inl (cI, 30, .inl rac))] H := by rw [hHe]; exact hP
  have hS : va_S A s.heap H locs := by rw [hHe, hLe]; exact hS
  have hW0 : ∀ QQ : State → Prop, W p l e (headSpec wsL_write rmL_write).room s m (([.ref h_x, .int p0, .int p1] : List Value).toArray) below meth c H locs 0 0 QQ (F0 m 0 ls []) → W p l e (headSpec wsL_write rmL_write).room s m (([.ref h_x, .int p0, .int p1] : List Value).toArray) below meth c s.heap [] 0 0 QQ (F0 m 0 ls []) := by rw [hHe, hLe]; exact fun _ h => h
  refine hW0 _ ?_
  clear hW0
  unfold fL_write at h
  refine lv_aload_n hx hb dL_write_0 rfl (lv_at hl 0 rfl) ?_
  refine lv_iload_n hx hb dL_write_1 rfl (lv_at hl 1 rfl) ?_
  refine lv_iload_n hx hb dL_write_2 rfl (lv_at hl 2 rfl) ?_
  obtain ⟨Rr, hq, hx1, hk1⟩ := bh3_r h
  refine zz_xV (As := [.int p0, .int p1]) (wr := []) (w1 := fun u : (Int32) × (Int32) × (Nat → Int32) => [(h_x, .inr (4, [.ref h_net, .ref a_now, .ref a_don, .ref h_wri, .ref a_per, .ref a_tho, .ref a_aft])), (h_net, .inr (1, [.ref a_ends, .int nc, .int sc, .int br, .int so, .int lo])), (h_wri, .inr (0, [.ref h_rac, .int u.2.1])), (h_rac, .inl (cI, 30, .inl u.2.2))]) (wt' := fun u : (Int32) × (Int32) × (Nat → Int32) => [(h_x, .inr (4, [.ref h_net, .ref a_now, .ref a_don, .ref h_wri, .ref a_per, .ref a_tho, .ref a_aft])), (h_net, .inr (1, [.ref a_ends, .int nc, .int sc, .int br, .int so, .int lo])), (h_wri, .inr (0, [.ref h_rac, .int u.2.1])), (h_rac, .inl (cI, 30, .inl u.2.2))]) (wc := [(h_x, .inr (4, [.ref h_net, .ref a_now, .ref a_don, .ref h_wri, .ref a_per, .ref a_tho, .ref a_aft])), (h_net, .inr (1, [.ref a_ends, .int nc, .int sc, .int br, .int so, .int lo])), (h_wri, .inr (0, [.ref h_rac, .int rs])), (h_rac, .inl (cI, 30, .inl rac))]) (rv := fun u => some (.int u.1)) ⟨hx, hb, hml, hown, hts⟩ (kX4_write l hl0 D cI cZ cL H.size h_x a_now a_don a_per a_tho a_aft h_net a_ends h_wri h_rac nc sc br so lo rs rac p0 p1 N hq) (cwV 2 hts gL_write_X4_write rfl rfl rfl (by decide +kernel) ⟨Nat.le_of_ble_eq_true rfl, Nat.le_of_ble_eq_true rfl⟩) hP hD hS hA hKK hKS hKZ [0, 1, 2, 3] [] [0, 1, 2, 3] rfl rfl (by decide) (by decide) (fun _ => rfl) rfl (by decide) (by decide) (va_recv hK hP (ci := 4) (q0 := 0) rfl rfl) rfl hl.1 rfl (Nat.le_of_ble_eq_true rfl) dL_write_3 ⟨Nat.le_of_ble_eq_true rfl, Nat.le_of_ble_eq_true rfl⟩ (fun E ce q9 H locs hE hP hD hS h1 h2 h3 => ?_) (fun u H locs hu hP hD hS => ?_)
  · have h := hx1 E hE
    by_cases c0 : E = "java/lang/IllegalArgumentException"
    · have h := it_t h c0
      subst c0
      cases h
      refine vx_catch (own := RL) (name := "java/lang/IllegalArgumentException") hown [] ⟨0, 7, 10, 22⟩ [⟨0, 7, 15, 20⟩, ⟨0, 7, 20, 14⟩] htab (fun z hz => absurd hz List.not_mem_nil) (by decide) (by decide) (hts _ lkL_write_0) (va_Nw.use rfl (hKS.2 (.castable "java/lang/IllegalArgumentException" "java/lang/IllegalArgumentException") (by decide +kernel))) h1 h2 h3 ?_
      refine lv_astore (lv' := [(4, .ref q9), (0, .ref h_x), (1, .int p0), (2, .int p1)]) hx hb dL_write_10 hl (by decide) rfl (fun ls hl => ?_)
      refine lv_bipush (v := (-71)) hx hb dL_write_12 (by decide) ?_
      rw [hQQ]
      refine W.widen (k := 2) (n := 12) (Nat.le_of_ble_eq_true rfl) (Nat.le_of_ble_eq_true rfl) ?_
      exact W.iret hx hb hr (fun t ht hW => ⟨rfl, by rw [ht]; exact hP, hD, hS.F ht⟩) hS.2.2 dL_write_14
    have h := it_f h c0
    by_cases c1 : E = "java/lang/IndexOutOfBoundsException"
    · have h := it_t h c1
      subst c1
      cases h
      refine vx_catch (own := RL) (name := "java/lang/IndexOutOfBoundsException") hown [⟨0, 7, 10, 22⟩] ⟨0, 7, 15, 20⟩ [⟨0, 7, 20, 14⟩] htab (List.forall_mem_cons.mpr ⟨Or.inr ⟨by decide, ⟨"java/lang/IllegalArgumentException", hts _ lkL_write_0, hKX ("java/lang/IndexOutOfBoundsException", "java/lang/IllegalArgumentException") (by decide)⟩⟩, (fun z hz => absurd hz List.not_mem_nil)⟩) (by decide) (by decide) (hts _ lkL_write_1) (va_Nw.use rfl (hKS.2 (.castable "java/lang/IndexOutOfBoundsException" "java/lang/IndexOutOfBoundsException") (by decide +kernel))) h1 h2 h3 ?_
      refine lv_astore (lv' := [(4, .ref q9), (0, .ref h_x), (1, .int p0), (2, .int p1)]) hx hb dL_write_15 hl (by decide) rfl (fun ls hl => ?_)
      refine lv_bipush (v := (-72)) hx hb dL_write_17 (by decide) ?_
      rw [hQQ]
      refine W.widen (k := 2) (n := 12) (Nat.le_of_ble_eq_true rfl) (Nat.le_of_ble_eq_true rfl) ?_
      exact W.iret hx hb hr (fun t ht hW => ⟨rfl, by rw [ht]; exact hP, hD, hS.F ht⟩) hS.2.2 dL_write_19
    have h := it_f h c1
    by_cases c2 : E = "java/lang/IllegalStateException"
    · have h := it_t h c2
      subst c2
      cases h
      refine vx_catch (own := RL) (name := "java/lang/IllegalStateException") hown [⟨0, 7, 10, 22⟩, ⟨0, 7, 15, 20⟩] ⟨0, 7, 20, 14⟩ [] htab (List.forall_mem_cons.mpr ⟨Or.inr ⟨by decide, ⟨"java/lang/IllegalArgumentException", hts _ lkL_write_0, hKX ("java/lang/IllegalStateException", "java/lang/IllegalArgumentException") (by decide)⟩⟩, (List.forall_mem_cons.mpr ⟨Or.inr ⟨by decide, ⟨"java/lang/IndexOutOfBoundsException", hts _ lkL_write_1, hKX ("java/lang/IllegalStateException", "java/lang/IndexOutOfBoundsException") (by decide)⟩⟩, (fun z hz => absurd hz List.not_mem_nil)⟩)⟩) (by decide) (by decide) (hts _ lkL_write_2) (va_Nw.use rfl (hKS.2 (.castable "java/lang/IllegalStateException" "java/lang/IllegalStateException") (by decide +kernel))) h1 h2 h3 ?_
      refine lv_astore (lv' := [(4, .ref q9), (0, .ref h_x), (1, .int p0), (2, .int p1)]) hx hb dL_write_20 hl (by decide) rfl (fun ls hl => ?_)
      refine lv_bipush (v := (-73)) hx hb dL_write_22 (by decide) ?_
      rw [hQQ]
      refine W.widen (k := 2) (n := 12) (Nat.le_of_ble_eq_true rfl) (Nat.le_of_ble_eq_true rfl) ?_
      exact W.iret hx hb hr (fun t ht hW => ⟨rfl, by rw [ht]; exact hP, hD, hS.F ht⟩) hS.2.2 dL_write_24
    have h := it_f h c2
    cases h
  · obtain ⟨v, w0, w1⟩ := u
    have h := hk1 _ _ _ hu
    have hP : va_P D vwCl [(h_x, .inr (4, [.ref h_net, .ref a_now, .ref a_don, .ref h_wri, .ref a_per, .ref a_tho, .ref a_aft])), (h_net, .inr (1, [.ref a_ends, .int nc, .int sc, .int br, .int so, .int lo])), (h_wri, .inr (0, [.ref h_rac, .int w0])), (h_rac, .inl (cI, 30, .inl w1))] H := hP
    have hD : va_D A [(h_x, .inr (4, [.ref h_net, .ref a_now, .ref a_don, .ref h_wri, .ref a_per, .ref a_tho, .ref a_aft])), (h_net, .inr (1, [.ref a_ends, .int nc, .int sc, .int br, .int so, .int lo])), (h_wri, .inr (0, [.ref h_rac, .int w0])), (h_rac, .inl (cI, 30, .inl w1))] := hD
    show W p l e _ s m _ below meth c H locs _ _ QQ (F0 m 6 ls (.int v :: []))
    refine lv_istore_n (lv' := [(3, .int v), (0, .ref h_x), (1, .int p0), (2, .int p1)]) hx hb dL_write_6 rfl hl (by decide) rfl (fun ls hl => ?_)
    refine lv_goto (tgt := 25) hx hb dL_write_7 (by decide) ?_
    refine lv_iload_n hx hb dL_write_25 rfl (lv_at hl 0 rfl) ?_
    cases h
    rw [hQQ]
    refine W.widen (k := 2) (n := 12) (Nat.le_of_ble_eq_true rfl) (Nat.le_of_ble_eq_true rfl) ?_
    exact W.iret hx hb hr (fun t ht hW => ⟨rfl, by rw [ht]; exact hP, hD, hS.F ht⟩) hS.2.2 dL_write_26

def fL_carryOut (N : Nat) (nc : Int32) (sc : Int32) (br : Int32) (so : Int32) (lo : Int32) (ends : Nat → Int32) (cl : Int32) (ea : Int32) (on : Int32) (ds : Int32) (dac : Nat → Int32) (rs : Int32) (rac : Nat → Int32) (pg : Int32) (hol : Nat → Int32) (ac : Int32) (ae : Int32) (ao : Int32) (p0 : Int32) : Option ((Int32) × (Int32) × (Int32) × (Int32) × (Int32) × (Nat → Int32) × (Int32) × (Nat → Int32) × (Int32) × (Int32) × (Int32)) :=
  bh11 (fX4_carryOut N nc sc br so lo ends cl ea on ds dac rs rac pg hol ac ae ao p0) (fun E => (if E = "java/lang/IllegalArgumentException" then some ((-71), cl, ea, on, ds, dac, rs, rac, ac, ae, ao) else (if E = "java/lang/IllegalStateException" then some ((-73), cl, ea, on, ds, dac, rs, rac, ac, ae, ao) else none))) (fun v w0 w1 w2 w3 w4 w5 w6 w7 w8 w9 => some (v, w0, w1, w2, w3, w4, w5, w6, w7, w8, w9))
set_option maxRecDepth 100000 in
theorem lkL_carryOut_0 : (.classLink RL 22 "java/lang/IllegalArgumentException" : Cond) ∈ wsL_carryOut := by decide +kernel
set_option maxRecDepth 100000 in
theorem lkL_carryOut_1 : (.classLink RL 14 "java/lang/IllegalStateException" : Cond) ∈ wsL_carryOut := by decide +kernel
abbrev rmL_carryOut : Room := { frames := 7, cells := 1, slots := 6, locals := 164 }
set_option maxHeartbeats 4000000 in
set_option maxRecDepth 100000 in
theorem kL_carryOut (l : Launch) (hl0 : l.stackTraces = false) (D : va_G) (cI cZ cL : ClassId) (sz0 : Nat) (h_x a_tho h_net h_ends h_now h_don h_dac h_wri h_rac h_per h_hol h_aft : Nat) (nc : Int32) (sc : Int32) (br : Int32) (so : Int32) (lo : Int32) (ends : Nat → Int32) (cl : Int32) (ea : Int32) (on : Int32) (ds : Int32) (dac : Nat → Int32) (rs : Int32) (rac : Nat → Int32) (pg : Int32) (hol : Nat → Int32) (ac : Int32) (ae : Int32) (ao : Int32) (p0 : Int32) (N : Nat) {r : Int32} {r_0 : Int32} {r_1 : Int32} {r_2 : Int32} {r_3 : Int32} {r_4 : Nat → Int32} {r_5 : Int32} {r_6 : Nat → Int32} {r_7 : Int32} {r_8 : Int32} {r_9 : Int32} (h : fL_carryOut N nc sc br so lo ends cl ea on ds dac rs rac pg hol ac ae ao p0 = some (r, r_0, r_1, r_2, r_3, r_4, r_5, r_6, r_7, r_8, r_9)) : Met l yL_carryOut wsL_carryOut rmL_carryOut (PH D cI cZ cL [.ref h_x, .int p0] [(h_x, .inr (4, [.ref h_net, .ref h_now, .ref h_don, .ref h_wri, .ref h_per, .ref a_tho, .ref h_aft])), (h_net, .inr (1, [.ref h_ends, .int nc, .int sc, .int br, .int so, .int lo])), (h_ends, .inl (cI, 24, .inl ends)), (h_now, .inr (3, [.int cl, .int ea, .int on])), (h_don, .inr (0, [.ref h_dac, .int ds])), (h_dac, .inl (cI, 200, .inl dac)), (h_wri, .inr (0, [.ref h_rac, .int rs])), (h_rac, .inl (cI, 30, .inl rac)), (h_per, .inr (2, [.ref h_hol, .int pg])), (h_hol, .inl (cI, 10, .inl hol)), (h_aft, .inr (3, [.int ac, .int ae, .int ao]))] sz0) (QM D (some (.int r)) (va_A [(h_x, .inr (4, [.ref h_net, .ref h_now, .ref h_don, .ref h_wri, .ref h_per, .ref a_tho, .ref h_aft])), (h_net, .inr (1, [.ref h_ends, .int nc, .int sc, .int br, .int so, .int lo])), (h_ends, .inl (cI, 24, .inl ends)), (h_now, .inr (3, [.int cl, .int ea, .int on])), (h_don, .inr (0, [.ref h_dac, .int ds])), (h_dac, .inl (cI, 200, .inl dac)), (h_wri, .inr (0, [.ref h_rac, .int rs])), (h_rac, .inl (cI, 30, .inl rac)), (h_per, .inr (2, [.ref h_hol, .int pg])), (h_hol, .inl (cI, 10, .inl hol)), (h_aft, .inr (3, [.int ac, .int ae, .int ao]))] sz0) [(h_x, .inr (4, [.ref h_net, .ref h_now, .ref h_don, .ref h_wri, .ref h_per, .ref a_tho, .ref h_aft])), (h_net, .inr (1, [.ref h_ends, .int nc, .int sc, .int br, .int so, .int lo])), (h_ends, .inl (cI, 24, .inl ends)), (h_now, .inr (3, [.int r_0, .int r_1, .int r_2])), (h_don, .inr (0, [.ref h_dac, .int r_3])), (h_dac, .inl (cI, 200, .inl r_4)), (h_wri, .inr (0, [.ref h_rac, .int r_5])), (h_rac, .inl (cI, 30, .inl r_6)), (h_per, .inr (2, [.ref h_hol, .int pg])), (h_hol, .inl (cI, 10, .inl hol)), (h_aft, .inr (3, [.int r_7, .int r_8, .int r_9]))]) 1 6 (va_A [(h_x, .inr (4, [.ref h_net, .ref h_now, .ref h_don, .ref h_wri, .ref h_per, .ref a_tho, .ref h_aft])), (h_net, .inr (1, [.ref h_ends, .int nc, .int sc, .int br, .int so, .int lo])), (h_ends, .inl (cI, 24, .inl ends)), (h_now, .inr (3, [.int cl, .int ea, .int on])), (h_don, .inr (0, [.ref h_dac, .int ds])), (h_dac, .inl (cI, 200, .inl dac)), (h_wri, .inr (0, [.ref h_rac, .int rs])), (h_rac, .inl (cI, 30, .inl rac)), (h_per, .inr (2, [.ref h_hol, .int pg])), (h_hol, .inl (cI, 10, .inl hol)), (h_aft, .inr (3, [.int ac, .int ae, .int ao]))] sz0) := by
  refine zz_ofWH (cc := cL_carryOut) (maxL := 4) (ret := (some .int)) (hh := [(0, 6, 9, 22), (0, 6, 13, 14)]) (by decide) rfl ?_
  intro p e s m args below meth c s₁ B hml hv
  obtain ⟨rfl, hsz, hP, hKK, hD0, hKS, hKZ, hKX⟩ := hv
  have hK := hKK.1
  have hx := B.exec
  have hb := B.bytes
  have hr := B.returns
  have hts := atoms_spec (ws := wsL_carryOut) B.pre
  have hown : s.vm.findClass RL = some m.cls := findClass_of_methodNamed B.named
  have hlocks := B.notSynchronized
  have htab : c.exceptionTable.toList = [⟨0, 6, 9, 22⟩, ⟨0, 6, 13, 14⟩] := (vx_table (x := yL_carryOut) B (hts (.codeWith yL_carryOut cL_carryOut 4 (some .int) [(0, 6, 9, 22), (0, 6, 13, 14)]) List.mem_cons_self)).trans rfl
  subst hsz
  have hD := hD0.self (sz := s.heap.size)
  generalize hAe : va_A [(h_x, .inr (4, [.ref h_net, .ref h_now, .ref h_don, .ref h_wri, .ref h_per, .ref a_tho, .ref h_aft])), (h_net, .inr (1, [.ref h_ends, .int nc, .int sc, .int br, .int so, .int lo])), (h_ends, .inl (cI, 24, .inl ends)), (h_now, .inr (3, [.int cl, .int ea, .int on])), (h_don, .inr (0, [.ref h_dac, .int ds])), (h_dac, .inl (cI, 200, .inl dac)), (h_wri, .inr (0, [.ref h_rac, .int rs])), (h_rac, .inl (cI, 30, .inl rac)), (h_per, .inr (2, [.ref h_hol, .int pg])), (h_hol, .inl (cI, 10, .inl hol)), (h_aft, .inr (3, [.int ac, .int ae, .int ao]))] s.heap.size = A at hD hKZ ⊢
  have hA : ∀ q : Nat, s.heap.size ≤ q → A q := fun q h => by rw [← hAe]; exact Or.inr h
  have hS : va_S A s.heap s.heap [] := va_S.rf
  have hl := lv_entry ([.ref h_x, .int p0]) (n := 4) (Nat.le_of_ble_eq_true rfl)
  rw [lg_entry_eq]
  generalize (lg_sl ([.ref h_x, .int p0]) ++ List.replicate (4 - (lg_sl ([.ref h_x, .int p0])).length) Slot.unset).toArray = ls at hl ⊢
  have hl : lv_has ls 4 [(0, .ref h_x), (1, .int p0)] := hl
  obtain ⟨QQ, hQQ⟩ : ∃ Z, Z = MQ below (QM D (some (.int r)) A [(h_x, .inr (4, [.ref h_net, .ref h_now, .ref h_don, .ref h_wri, .ref h_per, .ref a_tho, .ref h_aft])), (h_net, .inr (1, [.ref h_ends, .int nc, .int sc, .int br, .int so, .int lo])), (h_ends, .inl (cI, 24, .inl ends)), (h_now, .inr (3, [.int r_0, .int r_1, .int r_2])), (h_don, .inr (0, [.ref h_dac, .int r_3])), (h_dac, .inl (cI, 200, .inl r_4)), (h_wri, .inr (0, [.ref h_rac, .int r_5])), (h_rac, .inl (cI, 30, .inl r_6)), (h_per, .inr (2, [.ref h_hol, .int pg])), (h_hol, .inl (cI, 10, .inl hol)), (h_aft, .inr (3, [.int r_7, .int r_8, .int r_9]))]) ([.ref h_x, .int p0] : List Value).toArray s 1 6 A := ⟨_, rfl⟩
  rw [← hQQ]
  obtain ⟨H, locs, hHe, hLe⟩ : ∃ (H : Heap) (locs : List Loc), H = s.heap ∧ locs = [] := ⟨_, _, rfl, rfl⟩
  have hP : va_P D vwCl [(h_x, .inr (4, [.ref h_net, .ref h_now, .ref h_don, .ref h_wri, .ref h_per, .ref a_tho, .ref h_aft])), (h_net, .inr (1, [.ref h_ends, .int nc, .int sc, .int br, .int so, .int lo])), (h_ends, .inl (cI, 24, .inl ends)), (h_now, .inr (3, [.int cl, .int ea, .int on])), (h_don, .inr (0, [.ref h_dac, .int ds])), (h_dac, .inl (cI, 200, .inl dac)), (h_wri, .inr (0, [.ref h_rac, .int rs])), (h_rac, .inl (cI, 30, .inl rac)), (h_per, .inr (2, [.ref h_hol, .int pg])), (h_hol, .inl (cI, 10, .inl hol)), (h_aft, .inr (3, [.int ac, .int ae, .int ao]))] H := by rw [hHe]; exact hP
  have hS : va_S A s.heap H locs := by rw [hHe, hLe]; exact hS
  have hW0 : ∀ QQ : State → Prop, W p l e (headSpec wsL_carryOut rmL_carryOut).room s m (([.ref h_x, .int p0] : List Value).toArray) below meth c H locs 0 0 QQ (F0 m 0 ls []) → W p l e (headSpec wsL_carryOut rmL_carryOut).room s m (([.ref h_x, .int p0] : List Value).toArray) below meth c s.heap [] 0 0 QQ (F0 m 0 ls []) := by rw [hHe, hLe]; exact fun _ h => h
  refine hW0 _ ?_
  clear hW0
  unfold fL_carryOut at h
  refine lv_aload_n hx hb dL_carryOut_0 rfl (lv_at hl 0 rfl) ?_
  refine lv_iload_n hx hb dL_carryOut_1 rfl (lv_at hl 1 rfl) ?_
  obtain ⟨Rr, hq, hx1, hk1⟩ := bh11_r h
  refine zz_xV (As := [.int p0]) (wr := []) (w1 := fun u : (Int32) × (Int32) × (Int32) × (Int32) × (Int32) × (Nat → Int32) × (Int32) × (Nat → Int32) × (Int32) × (Int32) × (Int32) => [(h_x, .inr (4, [.ref h_net, .ref h_now, .ref h_don, .ref h_wri, .ref h_per, .ref a_tho, .ref h_aft])), (h_net, .inr (1, [.ref h_ends, .int nc, .int sc, .int br, .int so, .int lo])), (h_ends, .inl (cI, 24, .inl ends)), (h_now, .inr (3, [.int u.2.1, .int u.2.2.1, .int u.2.2.2.1])), (h_don, .inr (0, [.ref h_dac, .int u.2.2.2.2.1])), (h_dac, .inl (cI, 200, .inl u.2.2.2.2.2.1)), (h_wri, .inr (0, [.ref h_rac, .int u.2.2.2.2.2.2.1])), (h_rac, .inl (cI, 30, .inl u.2.2.2.2.2.2.2.1)), (h_per, .inr (2, [.ref h_hol, .int pg])), (h_hol, .inl (cI, 10, .inl hol)), (h_aft, .inr (3, [.int u.2.2.2.2.2.2.2.2.1, .int u.2.2.2.2.2.2.2.2.2.1, .int u.2.2.2.2.2.2.2.2.2.2]))]) (wt' := fun u : (Int32) × (Int32) × (Int32) × (Int32) × (Int32) × (Nat → Int32) × (Int32) × (Nat → Int32) × (Int32) × (Int32) × (Int32) => [(h_x, .inr (4, [.ref h_net, .ref h_now, .ref h_don, .ref h_wri, .ref h_per, .ref a_tho, .ref h_aft])), (h_net, .inr (1, [.ref h_ends, .int nc, .int sc, .int br, .int so, .int lo])), (h_ends, .inl (cI, 24, .inl ends)), (h_now, .inr (3, [.int u.2.1, .int u.2.2.1, .int u.2.2.2.1])), (h_don, .inr (0, [.ref h_dac, .int u.2.2.2.2.1])), (h_dac, .inl (cI, 200, .inl u.2.2.2.2.2.1)), (h_wri, .inr (0, [.ref h_rac, .int u.2.2.2.2.2.2.1])), (h_rac, .inl (cI, 30, .inl u.2.2.2.2.2.2.2.1)), (h_per, .inr (2, [.ref h_hol, .int pg])), (h_hol, .inl (cI, 10, .inl hol)), (h_aft, .inr (3, [.int u.2.2.2.2.2.2.2.2.1, .int u.2.2.2.2.2.2.2.2.2.1, .int u.2.2.2.2.2.2.2.2.2.2]))]) (wc := [(h_x, .inr (4, [.ref h_net, .ref h_now, .ref h_don, .ref h_wri, .ref h_per, .ref a_tho, .ref h_aft])), (h_net, .inr (1, [.ref h_ends, .int nc, .int sc, .int br, .int so, .int lo])), (h_ends, .inl (cI, 24, .inl ends)), (h_now, .inr (3, [.int cl, .int ea, .int on])), (h_don, .inr (0, [.ref h_dac, .int ds])), (h_dac, .inl (cI, 200, .inl dac)), (h_wri, .inr (0, [.ref h_rac, .int rs])), (h_rac, .inl (cI, 30, .inl rac)), (h_per, .inr (2, [.ref h_hol, .int pg])), (h_hol, .inl (cI, 10, .inl hol)), (h_aft, .inr (3, [.int ac, .int ae, .int ao]))]) (rv := fun u => some (.int u.1)) ⟨hx, hb, hml, hown, hts⟩ (kX4_carryOut l hl0 D cI cZ cL H.size h_x a_tho h_net h_ends h_now h_don h_dac h_wri h_rac h_per h_hol h_aft nc sc br so lo ends cl ea on ds dac rs rac pg hol ac ae ao p0 N hq) (cwV 1 hts gL_carryOut_X4_carryOut rfl rfl rfl (by decide +kernel) ⟨Nat.le_of_ble_eq_true rfl, Nat.le_of_ble_eq_true rfl⟩) hP hD hS hA hKK hKS hKZ [0, 1, 2, 3, 4, 5, 6, 7, 8, 9, 10] [] [0, 1, 2, 3, 4, 5, 6, 7, 8, 9, 10] rfl rfl (by decide) (by decide) (fun _ => rfl) rfl (by decide) (by decide) (va_recv hK hP (ci := 4) (q0 := 0) rfl rfl) rfl hl.1 rfl (Nat.le_of_ble_eq_true rfl) dL_carryOut_2 ⟨Nat.le_of_ble_eq_true rfl, Nat.le_of_ble_eq_true rfl⟩ (fun E ce q9 H locs hE hP hD hS h1 h2 h3 => ?_) (fun u H locs hu hP hD hS => ?_)
  · have h := hx1 E hE
    by_cases c0 : E = "java/lang/IllegalArgumentException"
    · have h := it_t h c0
      subst c0
      cases h
      refine vx_catch (own := RL) (name := "java/lang/IllegalArgumentException") hown [] ⟨0, 6, 9, 22⟩ [⟨0, 6, 13, 14⟩] htab (fun z hz => absurd hz List.not_mem_nil) (by decide) (by decide) (hts _ lkL_carryOut_0) (va_Nw.use rfl (hKS.2 (.castable "java/lang/IllegalArgumentException" "java/lang/IllegalArgumentException") (by decide +kernel))) h1 h2 h3 ?_
      refine lv_astore_n (lv' := [(3, .ref q9), (0, .ref h_x), (1, .int p0)]) hx hb dL_carryOut_9 rfl hl (by decide) rfl (fun ls hl => ?_)
      refine lv_bipush (v := (-71)) hx hb dL_carryOut_10 (by decide) ?_
      rw [hQQ]
      refine W.widen (k := 1) (n := 6) (Nat.le_of_ble_eq_true rfl) (Nat.le_of_ble_eq_true rfl) ?_
      exact W.iret hx hb hr (fun t ht hW => ⟨rfl, by rw [ht]; exact hP, hD, hS.F ht⟩) hS.2.2 dL_carryOut_12
    have h := it_f h c0
    by_cases c1 : E = "java/lang/IllegalStateException"
    · have h := it_t h c1
      subst c1
      cases h
      refine vx_catch (own := RL) (name := "java/lang/IllegalStateException") hown [⟨0, 6, 9, 22⟩] ⟨0, 6, 13, 14⟩ [] htab (List.forall_mem_cons.mpr ⟨Or.inr ⟨by decide, ⟨"java/lang/IllegalArgumentException", hts _ lkL_carryOut_0, hKX ("java/lang/IllegalStateException", "java/lang/IllegalArgumentException") (by decide)⟩⟩, (fun z hz => absurd hz List.not_mem_nil)⟩) (by decide) (by decide) (hts _ lkL_carryOut_1) (va_Nw.use rfl (hKS.2 (.castable "java/lang/IllegalStateException" "java/lang/IllegalStateException") (by decide +kernel))) h1 h2 h3 ?_
      refine lv_astore_n (lv' := [(3, .ref q9), (0, .ref h_x), (1, .int p0)]) hx hb dL_carryOut_13 rfl hl (by decide) rfl (fun ls hl => ?_)
      refine lv_bipush (v := (-73)) hx hb dL_carryOut_14 (by decide) ?_
      rw [hQQ]
      refine W.widen (k := 1) (n := 6) (Nat.le_of_ble_eq_true rfl) (Nat.le_of_ble_eq_true rfl) ?_
      exact W.iret hx hb hr (fun t ht hW => ⟨rfl, by rw [ht]; exact hP, hD, hS.F ht⟩) hS.2.2 dL_carryOut_16
    have h := it_f h c1
    cases h
  · obtain ⟨v, w0, w1, w2, w3, w4, w5, w6, w7, w8, w9⟩ := u
    have h := hk1 _ _ _ _ _ _ _ _ _ _ _ hu
    have hP : va_P D vwCl [(h_x, .inr (4, [.ref h_net, .ref h_now, .ref h_don, .ref h_wri, .ref h_per, .ref a_tho, .ref h_aft])), (h_net, .inr (1, [.ref h_ends, .int nc, .int sc, .int br, .int so, .int lo])), (h_ends, .inl (cI, 24, .inl ends)), (h_now, .inr (3, [.int w0, .int w1, .int w2])), (h_don, .inr (0, [.ref h_dac, .int w3])), (h_dac, .inl (cI, 200, .inl w4)), (h_wri, .inr (0, [.ref h_rac, .int w5])), (h_rac, .inl (cI, 30, .inl w6)), (h_per, .inr (2, [.ref h_hol, .int pg])), (h_hol, .inl (cI, 10, .inl hol)), (h_aft, .inr (3, [.int w7, .int w8, .int w9]))] H := hP
    have hD : va_D A [(h_x, .inr (4, [.ref h_net, .ref h_now, .ref h_don, .ref h_wri, .ref h_per, .ref a_tho, .ref h_aft])), (h_net, .inr (1, [.ref h_ends, .int nc, .int sc, .int br, .int so, .int lo])), (h_ends, .inl (cI, 24, .inl ends)), (h_now, .inr (3, [.int w0, .int w1, .int w2])), (h_don, .inr (0, [.ref h_dac, .int w3])), (h_dac, .inl (cI, 200, .inl w4)), (h_wri, .inr (0, [.ref h_rac, .int w5])), (h_rac, .inl (cI, 30, .inl w6)), (h_per, .inr (2, [.ref h_hol, .int pg])), (h_hol, .inl (cI, 10, .inl hol)), (h_aft, .inr (3, [.int w7, .int w8, .int w9]))] := hD
    show W p l e _ s m _ below meth c H locs _ _ QQ (F0 m 5 ls (.int v :: []))
    refine lv_istore_n (lv' := [(2, .int v), (0, .ref h_x), (1, .int p0)]) hx hb dL_carryOut_5 rfl hl (by decide) rfl (fun ls hl => ?_)
    refine lv_goto (tgt := 17) hx hb dL_carryOut_6 (by decide) ?_
    refine lv_iload_n hx hb dL_carryOut_17 rfl (lv_at hl 0 rfl) ?_
    cases h
    rw [hQQ]
    refine W.widen (k := 1) (n := 6) (Nat.le_of_ble_eq_true rfl) (Nat.le_of_ble_eq_true rfl) ?_
    exact W.iret hx hb hr (fun t ht hW => ⟨rfl, by rw [ht]; exact hP, hD, hS.F ht⟩) hS.2.2 dL_carryOut_18

def fL_permit (N : Nat) (nc : Int32) (sc : Int32) (br : Int32) (so : Int32) (lo : Int32) (ends : Nat → Int32) (cl : Int32) (ea : Int32) (on : Int32) (pg : Int32) (hol : Nat → Int32) (p0 : Int32) : Option ((Int32) × (Nat → Int32) × (Int32)) :=
  bh3 (fX4_permit N nc sc br so lo ends cl ea on pg hol p0) (fun E => (if E = "java/lang/IllegalArgumentException" then some ((-71), hol, pg) else (if E = "java/lang/IllegalStateException" then some ((-73), hol, pg) else none))) (fun v w0 w1 => some (v, w0, w1))
set_option maxRecDepth 100000 in
theorem lkL_permit_0 : (.classLink RL 22 "java/lang/IllegalArgumentException" : Cond) ∈ wsL_permit := by decide +kernel
set_option maxRecDepth 100000 in
theorem lkL_permit_1 : (.classLink RL 14 "java/lang/IllegalStateException" : Cond) ∈ wsL_permit := by decide +kernel
abbrev rmL_permit : Room := { frames := 7, cells := 1, slots := 6, locals := 112 }
set_option maxHeartbeats 4000000 in
set_option maxRecDepth 100000 in
theorem kL_permit (l : Launch) (hl0 : l.stackTraces = false) (D : va_G) (cI cZ cL : ClassId) (sz0 : Nat) (h_x a_don a_wri a_tho a_aft h_net h_ends h_now h_per h_hol : Nat) (nc : Int32) (sc : Int32) (br : Int32) (so : Int32) (lo : Int32) (ends : Nat → Int32) (cl : Int32) (ea : Int32) (on : Int32) (pg : Int32) (hol : Nat → Int32) (p0 : Int32) (N : Nat) {r : Int32} {r_0 : Nat → Int32} {r_1 : Int32} (h : fL_permit N nc sc br so lo ends cl ea on pg hol p0 = some (r, r_0, r_1)) : Met l yL_permit wsL_permit rmL_permit (PH D cI cZ cL [.ref h_x, .int p0] [(h_x, .inr (4, [.ref h_net, .ref h_now, .ref a_don, .ref a_wri, .ref h_per, .ref a_tho, .ref a_aft])), (h_net, .inr (1, [.ref h_ends, .int nc, .int sc, .int br, .int so, .int lo])), (h_ends, .inl (cI, 24, .inl ends)), (h_now, .inr (3, [.int cl, .int ea, .int on])), (h_per, .inr (2, [.ref h_hol, .int pg])), (h_hol, .inl (cI, 10, .inl hol))] sz0) (QM D (some (.int r)) (va_A [(h_x, .inr (4, [.ref h_net, .ref h_now, .ref a_don, .ref a_wri, .ref h_per, .ref a_tho, .ref a_aft])), (h_net, .inr (1, [.ref h_ends, .int nc, .int sc, .int br, .int so, .int lo])), (h_ends, .inl (cI, 24, .inl ends)), (h_now, .inr (3, [.int cl, .int ea, .int on])), (h_per, .inr (2, [.ref h_hol, .int pg])), (h_hol, .inl (cI, 10, .inl hol))] sz0) [(h_x, .inr (4, [.ref h_net, .ref h_now, .ref a_don, .ref a_wri, .ref h_per, .ref a_tho, .ref a_aft])), (h_net, .inr (1, [.ref h_ends, .int nc, .int sc, .int br, .int so, .int lo])), (h_ends, .inl (cI, 24, .inl ends)), (h_now, .inr (3, [.int cl, .int ea, .int on])), (h_per, .inr (2, [.ref h_hol, .int r_1])), (h_hol, .inl (cI, 10, .inl r_0))]) 1 6 (va_A [(h_x, .inr (4, [.ref h_net, .ref h_now, .ref a_don, .ref a_wri, .ref h_per, .ref a_tho, .ref a_aft])), (h_net, .inr (1, [.ref h_ends, .int nc, .int sc, .int br, .int so, .int lo])), (h_ends, .inl (cI, 24, .inl ends)), (h_now, .inr (3, [.int cl, .int ea, .int on])), (h_per, .inr (2, [.ref h_hol, .int pg])), (h_hol, .inl (cI, 10, .inl hol))] sz0) := by
  refine zz_ofWH (cc := cL_permit) (maxL := 4) (ret := (some .int)) (hh := [(0, 6, 9, 22), (0, 6, 13, 14)]) (by decide) rfl ?_
  intro p e s m args below meth c s₁ B hml hv
  obtain ⟨rfl, hsz, hP, hKK, hD0, hKS, hKZ, hKX⟩ := hv
  have hK := hKK.1
  have hx := B.exec
  have hb := B.bytes
  have hr := B.returns
  have hts := atoms_spec (ws := wsL_permit) B.pre
  have hown : s.vm.findClass RL = some m.cls := findClass_of_methodNamed B.named
  have hlocks := B.notSynchronized
  have htab : c.exceptionTable.toList = [⟨0, 6, 9, 22⟩, ⟨0, 6, 13, 14⟩] := (vx_table (x := yL_permit) B (hts (.codeWith yL_permit cL_permit 4 (some .int) [(0, 6, 9, 22), (0, 6, 13, 14)]) List.mem_cons_self)).trans rfl
  subst hsz
  have hD := hD0.self (sz := s.heap.size)
  generalize hAe : va_A [(h_x, .inr (4, [.ref h_net, .ref h_now, .ref a_don, .ref a_wri, .ref h_per, .ref a_tho, .ref a_aft])), (h_net, .inr (1, [.ref h_ends, .int nc, .int sc, .int br, .int so, .int lo])), (h_ends, .inl (cI, 24, .inl ends)), (h_now, .inr (3, [.int cl, .int ea, .int on])), (h_per, .inr (2, [.ref h_hol, .int pg])), (h_hol, .inl (cI, 10, .inl hol))] s.heap.size = A at hD hKZ ⊢
  have hA : ∀ q : Nat, s.heap.size ≤ q → A q := fun q h => by rw [← hAe]; exact Or.inr h
  have hS : va_S A s.heap s.heap [] := va_S.rf
  have hl := lv_entry ([.ref h_x, .int p0]) (n := 4) (Nat.le_of_ble_eq_true rfl)
  rw [lg_entry_eq]
  generalize (lg_sl ([.ref h_x, .int p0]) ++ List.replicate (4 - (lg_sl ([.ref h_x, .int p0])).length) Slot.unset).toArray = ls at hl ⊢
  have hl : lv_has ls 4 [(0, .ref h_x), (1, .int p0)] := hl
  obtain ⟨QQ, hQQ⟩ : ∃ Z, Z = MQ below (QM D (some (.int r)) A [(h_x, .inr (4, [.ref h_net, .ref h_now, .ref a_don, .ref a_wri, .ref h_per, .ref a_tho, .ref a_aft])), (h_net, .inr (1, [.ref h_ends, .int nc, .int sc, .int br, .int so, .int lo])), (h_ends, .inl (cI, 24, .inl ends)), (h_now, .inr (3, [.int cl, .int ea, .int on])), (h_per, .inr (2, [.ref h_hol, .int r_1])), (h_hol, .inl (cI, 10, .inl r_0))]) ([.ref h_x, .int p0] : List Value).toArray s 1 6 A := ⟨_, rfl⟩
  rw [← hQQ]
  obtain ⟨H, locs, hHe, hLe⟩ : ∃ (H : Heap) (locs : List Loc), H = s.heap ∧ locs = [] := ⟨_, _, rfl, rfl⟩
  have hP : va_P D vwCl [(h_x, .inr (4, [.ref h_net, .ref h_now, .ref a_don, .ref a_wri, .ref h_per, .ref a_tho, .ref a_aft])), (h_net, .inr (1, [.ref h_ends, .int nc, .int sc, .int br, .int so, .int lo])), (h_ends, .inl (cI, 24, .inl ends)), (h_now, .inr (3, [.int cl, .int ea, .int on])), (h_per, .inr (2, [.ref h_hol, .int pg])), (h_hol, .inl (cI, 10, .inl hol))] H := by rw [hHe]; exact hP
  have hS : va_S A s.heap H locs := by rw [hHe, hLe]; exact hS
  have hW0 : ∀ QQ : State → Prop, W p l e (headSpec wsL_permit rmL_permit).room s m (([.ref h_x, .int p0] : List Value).toArray) below meth c H locs 0 0 QQ (F0 m 0 ls []) → W p l e (headSpec wsL_permit rmL_permit).room s m (([.ref h_x, .int p0] : List Value).toArray) below meth c s.heap [] 0 0 QQ (F0 m 0 ls []) := by rw [hHe, hLe]; exact fun _ h => h
  refine hW0 _ ?_
  clear hW0
  unfold fL_permit at h
  refine lv_aload_n hx hb dL_permit_0 rfl (lv_at hl 0 rfl) ?_
  refine lv_iload_n hx hb dL_permit_1 rfl (lv_at hl 1 rfl) ?_
  obtain ⟨Rr, hq, hx1, hk1⟩ := bh3_r h
  refine zz_xV (As := [.int p0]) (wr := []) (w1 := fun u : (Int32) × (Nat → Int32) × (Int32) => [(h_x, .inr (4, [.ref h_net, .ref h_now, .ref a_don, .ref a_wri, .ref h_per, .ref a_tho, .ref a_aft])), (h_net, .inr (1, [.ref h_ends, .int nc, .int sc, .int br, .int so, .int lo])), (h_ends, .inl (cI, 24, .inl ends)), (h_now, .inr (3, [.int cl, .int ea, .int on])), (h_per, .inr (2, [.ref h_hol, .int u.2.2])), (h_hol, .inl (cI, 10, .inl u.2.1))]) (wt' := fun u : (Int32) × (Nat → Int32) × (Int32) => [(h_x, .inr (4, [.ref h_net, .ref h_now, .ref a_don, .ref a_wri, .ref h_per, .ref a_tho, .ref a_aft])), (h_net, .inr (1, [.ref h_ends, .int nc, .int sc, .int br, .int so, .int lo])), (h_ends, .inl (cI, 24, .inl ends)), (h_now, .inr (3, [.int cl, .int ea, .int on])), (h_per, .inr (2, [.ref h_hol, .int u.2.2])), (h_hol, .inl (cI, 10, .inl u.2.1))]) (wc := [(h_x, .inr (4, [.ref h_net, .ref h_now, .ref a_don, .ref a_wri, .ref h_per, .ref a_tho, .ref a_aft])), (h_net, .inr (1, [.ref h_ends, .int nc, .int sc, .int br, .int so, .int lo])), (h_ends, .inl (cI, 24, .inl ends)), (h_now, .inr (3, [.int cl, .int ea, .int on])), (h_per, .inr (2, [.ref h_hol, .int pg])), (h_hol, .inl (cI, 10, .inl hol))]) (rv := fun u => some (.int u.1)) ⟨hx, hb, hml, hown, hts⟩ (kX4_permit l hl0 D cI cZ cL H.size h_x a_don a_wri a_tho a_aft h_net h_ends h_now h_per h_hol nc sc br so lo ends cl ea on pg hol p0 N hq) (cwV 1 hts gL_permit_X4_permit rfl rfl rfl (by decide +kernel) ⟨Nat.le_of_ble_eq_true rfl, Nat.le_of_ble_eq_true rfl⟩) hP hD hS hA hKK hKS hKZ [0, 1, 2, 3, 4, 5] [] [0, 1, 2, 3, 4, 5] rfl rfl (by decide) (by decide) (fun _ => rfl) rfl (by decide) (by decide) (va_recv hK hP (ci := 4) (q0 := 0) rfl rfl) rfl hl.1 rfl (Nat.le_of_ble_eq_true rfl) dL_permit_2 ⟨Nat.le_of_ble_eq_true rfl, Nat.le_of_ble_eq_true rfl⟩ (fun E ce q9 H locs hE hP hD hS h1 h2 h3 => ?_) (fun u H locs hu hP hD hS => ?_)
  · have h := hx1 E hE
    by_cases c0 : E = "java/lang/IllegalArgumentException"
    · have h := it_t h c0
      subst c0
      cases h
      refine vx_catch (own := RL) (name := "java/lang/IllegalArgumentException") hown [] ⟨0, 6, 9, 22⟩ [⟨0, 6, 13, 14⟩] htab (fun z hz => absurd hz List.not_mem_nil) (by decide) (by decide) (hts _ lkL_permit_0) (va_Nw.use rfl (hKS.2 (.castable "java/lang/IllegalArgumentException" "java/lang/IllegalArgumentException") (by decide +kernel))) h1 h2 h3 ?_
      refine lv_astore_n (lv' := [(3, .ref q9), (0, .ref h_x), (1, .int p0)]) hx hb dL_permit_9 rfl hl (by decide) rfl (fun ls hl => ?_)
      refine lv_bipush (v := (-71)) hx hb dL_permit_10 (by decide) ?_
      rw [hQQ]
      refine W.widen (k := 1) (n := 6) (Nat.le_of_ble_eq_true rfl) (Nat.le_of_ble_eq_true rfl) ?_
      exact W.iret hx hb hr (fun t ht hW => ⟨rfl, by rw [ht]; exact hP, hD, hS.F ht⟩) hS.2.2 dL_permit_12
    have h := it_f h c0
    by_cases c1 : E = "java/lang/IllegalStateException"
    · have h := it_t h c1
      subst c1
      cases h
      refine vx_catch (own := RL) (name := "java/lang/IllegalStateException") hown [⟨0, 6, 9, 22⟩] ⟨0, 6, 13, 14⟩ [] htab (List.forall_mem_cons.mpr ⟨Or.inr ⟨by decide, ⟨"java/lang/IllegalArgumentException", hts _ lkL_permit_0, hKX ("java/lang/IllegalStateException", "java/lang/IllegalArgumentException") (by decide)⟩⟩, (fun z hz => absurd hz List.not_mem_nil)⟩) (by decide) (by decide) (hts _ lkL_permit_1) (va_Nw.use rfl (hKS.2 (.castable "java/lang/IllegalStateException" "java/lang/IllegalStateException") (by decide +kernel))) h1 h2 h3 ?_
      refine lv_astore_n (lv' := [(3, .ref q9), (0, .ref h_x), (1, .int p0)]) hx hb dL_permit_13 rfl hl (by decide) rfl (fun ls hl => ?_)
      refine lv_bipush (v := (-73)) hx hb dL_permit_14 (by decide) ?_
      rw [hQQ]
      refine W.widen (k := 1) (n := 6) (Nat.le_of_ble_eq_true rfl) (Nat.le_of_ble_eq_true rfl) ?_
      exact W.iret hx hb hr (fun t ht hW => ⟨rfl, by rw [ht]; exact hP, hD, hS.F ht⟩) hS.2.2 dL_permit_16
    have h := it_f h c1
    cases h
  · obtain ⟨v, w0, w1⟩ := u
    have h := hk1 _ _ _ hu
    have hP : va_P D vwCl [(h_x, .inr (4, [.ref h_net, .ref h_now, .ref a_don, .ref a_wri, .ref h_per, .ref a_tho, .ref a_aft])), (h_net, .inr (1, [.ref h_ends, .int nc, .int sc, .int br, .int so, .int lo])), (h_ends, .inl (cI, 24, .inl ends)), (h_now, .inr (3, [.int cl, .int ea, .int on])), (h_per, .inr (2, [.ref h_hol, .int w1])), (h_hol, .inl (cI, 10, .inl w0))] H := hP
    have hD : va_D A [(h_x, .inr (4, [.ref h_net, .ref h_now, .ref a_don, .ref a_wri, .ref h_per, .ref a_tho, .ref a_aft])), (h_net, .inr (1, [.ref h_ends, .int nc, .int sc, .int br, .int so, .int lo])), (h_ends, .inl (cI, 24, .inl ends)), (h_now, .inr (3, [.int cl, .int ea, .int on])), (h_per, .inr (2, [.ref h_hol, .int w1])), (h_hol, .inl (cI, 10, .inl w0))] := hD
    show W p l e _ s m _ below meth c H locs _ _ QQ (F0 m 5 ls (.int v :: []))
    refine lv_istore_n (lv' := [(2, .int v), (0, .ref h_x), (1, .int p0)]) hx hb dL_permit_5 rfl hl (by decide) rfl (fun ls hl => ?_)
    refine lv_goto (tgt := 17) hx hb dL_permit_6 (by decide) ?_
    refine lv_iload_n hx hb dL_permit_17 rfl (lv_at hl 0 rfl) ?_
    cases h
    rw [hQQ]
    refine W.widen (k := 1) (n := 6) (Nat.le_of_ble_eq_true rfl) (Nat.le_of_ble_eq_true rfl) ?_
    exact W.iret hx hb hr (fun t ht hW => ⟨rfl, by rw [ht]; exact hP, hD, hS.F ht⟩) hS.2.2 dL_permit_18

def fL_handBack (N : Nat) (pg : Int32) (hol : Nat → Int32) (p0 : Int32) : Option ((Int32) × (Nat → Int32)) :=
  bh2 (fX4_handBack N pg hol p0) (fun E => (if E = "java/lang/IndexOutOfBoundsException" then some ((-72), hol) else (if E = "java/lang/IllegalStateException" then some ((-73), hol) else none))) (fun v w0 => some (v, w0))
set_option maxRecDepth 100000 in
theorem lkL_handBack_0 : (.classLink RL 20 "java/lang/IndexOutOfBoundsException" : Cond) ∈ wsL_handBack := by decide +kernel
set_option maxRecDepth 100000 in
theorem lkL_handBack_1 : (.classLink RL 14 "java/lang/IllegalStateException" : Cond) ∈ wsL_handBack := by decide +kernel
abbrev rmL_handBack : Room := { frames := 7, cells := 1, slots := 6, locals := 103 }
set_option maxHeartbeats 4000000 in
set_option maxRecDepth 100000 in
theorem kL_handBack (l : Launch) (hl0 : l.stackTraces = false) (D : va_G) (cI cZ cL : ClassId) (sz0 : Nat) (h_x a_net a_now a_don a_wri a_tho a_aft h_per h_hol : Nat) (pg : Int32) (hol : Nat → Int32) (p0 : Int32) (N : Nat) {r : Int32} {r_0 : Nat → Int32} (h : fL_handBack N pg hol p0 = some (r, r_0)) : Met l yL_handBack wsL_handBack rmL_handBack (PH D cI cZ cL [.ref h_x, .int p0] [(h_x, .inr (4, [.ref a_net, .ref a_now, .ref a_don, .ref a_wri, .ref h_per, .ref a_tho, .ref a_aft])), (h_per, .inr (2, [.ref h_hol, .int pg])), (h_hol, .inl (cI, 10, .inl hol))] sz0) (QM D (some (.int r)) (va_A [(h_x, .inr (4, [.ref a_net, .ref a_now, .ref a_don, .ref a_wri, .ref h_per, .ref a_tho, .ref a_aft])), (h_per, .inr (2, [.ref h_hol, .int pg])), (h_hol, .inl (cI, 10, .inl hol))] sz0) [(h_x, .inr (4, [.ref a_net, .ref a_now, .ref a_don, .ref a_wri, .ref h_per, .ref a_tho, .ref a_aft])), (h_per, .inr (2, [.ref h_hol, .int pg])), (h_hol, .inl (cI, 10, .inl r_0))]) 1 6 (va_A [(h_x, .inr (4, [.ref a_net, .ref a_now, .ref a_don, .ref a_wri, .ref h_per, .ref a_tho, .ref a_aft])), (h_per, .inr (2, [.ref h_hol, .int pg])), (h_hol, .inl (cI, 10, .inl hol))] sz0) := by
  refine zz_ofWH (cc := cL_handBack) (maxL := 4) (ret := (some .int)) (hh := [(0, 6, 9, 20), (0, 6, 13, 14)]) (by decide) rfl ?_
  intro p e s m args below meth c s₁ B hml hv
  obtain ⟨rfl, hsz, hP, hKK, hD0, hKS, hKZ, hKX⟩ := hv
  have hK := hKK.1
  have hx := B.exec
  have hb := B.bytes
  have hr := B.returns
  have hts := atoms_spec (ws := wsL_handBack) B.pre
  have hown : s.vm.findClass RL = some m.cls := findClass_of_methodNamed B.named
  have hlocks := B.notSynchronized
  have htab : c.exceptionTable.toList = [⟨0, 6, 9, 20⟩, ⟨0, 6, 13, 14⟩] := (vx_table (x := yL_handBack) B (hts (.codeWith yL_handBack cL_handBack 4 (some .int) [(0, 6, 9, 20), (0, 6, 13, 14)]) List.mem_cons_self)).trans rfl
  subst hsz
  have hD := hD0.self (sz := s.heap.size)
  generalize hAe : va_A [(h_x, .inr (4, [.ref a_net, .ref a_now, .ref a_don, .ref a_wri, .ref h_per, .ref a_tho, .ref a_aft])), (h_per, .inr (2, [.ref h_hol, .int pg])), (h_hol, .inl (cI, 10, .inl hol))] s.heap.size = A at hD hKZ ⊢
  have hA : ∀ q : Nat, s.heap.size ≤ q → A q := fun q h => by rw [← hAe]; exact Or.inr h
  have hS : va_S A s.heap s.heap [] := va_S.rf
  have hl := lv_entry ([.ref h_x, .int p0]) (n := 4) (Nat.le_of_ble_eq_true rfl)
  rw [lg_entry_eq]
  generalize (lg_sl ([.ref h_x, .int p0]) ++ List.replicate (4 - (lg_sl ([.ref h_x, .int p0])).length) Slot.unset).toArray = ls at hl ⊢
  have hl : lv_has ls 4 [(0, .ref h_x), (1, .int p0)] := hl
  obtain ⟨QQ, hQQ⟩ : ∃ Z, Z = MQ below (QM D (some (.int r)) A [(h_x, .inr (4, [.ref a_net, .ref a_now, .ref a_don, .ref a_wri, .ref h_per, .ref a_tho, .ref a_aft])), (h_per, .inr (2, [.ref h_hol, .int pg])), (h_hol, .inl (cI, 10, .inl r_0))]) ([.ref h_x, .int p0] : List Value).toArray s 1 6 A := ⟨_, rfl⟩
  rw [← hQQ]
  obtain ⟨H, locs, hHe, hLe⟩ : ∃ (H : Heap) (locs : List Loc), H = s.heap ∧ locs = [] := ⟨_, _, rfl, rfl⟩
  have hP : va_P D vwCl [(h_x, .inr (4, [.ref a_net, .ref a_now, .ref a_don, .ref a_wri, .ref h_per, .ref a_tho, .ref a_aft])), (h_per, .inr (2, [.ref h_hol, .int pg])), (h_hol, .inl (cI, 10, .inl hol))] H := by rw [hHe]; exact hP
  have hS : va_S A s.heap H locs := by rw [hHe, hLe]; exact hS
  have hW0 : ∀ QQ : State → Prop, W p l e (headSpec wsL_handBack rmL_handBack).room s m (([.ref h_x, .int p0] : List Value).toArray) below meth c H locs 0 0 QQ (F0 m 0 ls []) → W p l e (headSpec wsL_handBack rmL_handBack).room s m (([.ref h_x, .int p0] : List Value).toArray) below meth c s.heap [] 0 0 QQ (F0 m 0 ls []) := by rw [hHe, hLe]; exact fun _ h => h
  refine hW0 _ ?_
  clear hW0
  unfold fL_handBack at h
  refine lv_aload_n hx hb dL_handBack_0 rfl (lv_at hl 0 rfl) ?_
  refine lv_iload_n hx hb dL_handBack_1 rfl (lv_at hl 1 rfl) ?_
  obtain ⟨Rr, hq, hx1, hk1⟩ := bh2_r h
  refine zz_xV (As := [.int p0]) (wr := []) (w1 := fun u : (Int32) × (Nat → Int32) => [(h_x, .inr (4, [.ref a_net, .ref a_now, .ref a_don, .ref a_wri, .ref h_per, .ref a_tho, .ref a_aft])), (h_per, .inr (2, [.ref h_hol, .int pg])), (h_hol, .inl (cI, 10, .inl u.2))]) (wt' := fun u : (Int32) × (Nat → Int32) => [(h_x, .inr (4, [.ref a_net, .ref a_now, .ref a_don, .ref a_wri, .ref h_per, .ref a_tho, .ref a_aft])), (h_per, .inr (2, [.ref h_hol, .int pg])), (h_hol, .inl (cI, 10, .inl u.2))]) (wc := [(h_x, .inr (4, [.ref a_net, .ref a_now, .ref a_don, .ref a_wri, .ref h_per, .ref a_tho, .ref a_aft])), (h_per, .inr (2, [.ref h_hol, .int pg])), (h_hol, .inl (cI, 10, .inl hol))]) (rv := fun u => some (.int u.1)) ⟨hx, hb, hml, hown, hts⟩ (kX4_handBack l hl0 D cI cZ cL H.size h_x a_net a_now a_don a_wri a_tho a_aft h_per h_hol pg hol p0 N hq) (cwV 1 hts gL_handBack_X4_handBack rfl rfl rfl (by decide +kernel) ⟨Nat.le_of_ble_eq_true rfl, Nat.le_of_ble_eq_true rfl⟩) hP hD hS hA hKK hKS hKZ [0, 1, 2] [] [0, 1, 2] rfl rfl (by decide) (by decide) (fun _ => rfl) rfl (by decide) (by decide) (va_recv hK hP (ci := 4) (q0 := 0) rfl rfl) rfl hl.1 rfl (Nat.le_of_ble_eq_true rfl) dL_handBack_2 ⟨Nat.le_of_ble_eq_true rfl, Nat.le_of_ble_eq_true rfl⟩ (fun E ce q9 H locs hE hP hD hS h1 h2 h3 => ?_) (fun u H locs hu hP hD hS => ?_)
  · have h := hx1 E hE
    by_cases c0 : E = "java/lang/IndexOutOfBoundsException"
    · have h := it_t h c0
      subst c0
      cases h
      refine vx_catch (own := RL) (name := "java/lang/IndexOutOfBoundsException") hown [] ⟨0, 6, 9, 20⟩ [⟨0, 6, 13, 14⟩] htab (fun z hz => absurd hz List.not_mem_nil) (by decide) (by decide) (hts _ lkL_handBack_0) (va_Nw.use rfl (hKS.2 (.castable "java/lang/IndexOutOfBoundsException" "java/lang/IndexOutOfBoundsException") (by decide +kernel))) h1 h2 h3 ?_
      refine lv_astore_n (lv' := [(3, .ref q9), (0, .ref h_x), (1, .int p0)]) hx hb dL_handBack_9 rfl hl (by decide) rfl (fun ls hl => ?_)
      refine lv_bipush (v := (-72)) hx hb dL_handBack_10 (by decide) ?_
      rw [hQQ]
      refine W.widen (k := 1) (n := 6) (Nat.le_of_ble_eq_true rfl) (Nat.le_of_ble_eq_true rfl) ?_
      exact W.iret hx hb hr (fun t ht hW => ⟨rfl, by rw [ht]; exact hP, hD, hS.F ht⟩) hS.2.2 dL_handBack_12
    have h := it_f h c0
    by_cases c1 : E = "java/lang/IllegalStateException"
    · have h := it_t h c1
      subst c1
      cases h
      refine vx_catch (own := RL) (name := "java/lang/IllegalStateException") hown [⟨0, 6, 9, 20⟩] ⟨0, 6, 13, 14⟩ [] htab (List.forall_mem_cons.mpr ⟨Or.inr ⟨by decide, ⟨"java/lang/IndexOutOfBoundsException", hts _ lkL_handBack_0, hKX ("java/lang/IllegalStateException", "java/lang/IndexOutOfBoundsException") (by decide)⟩⟩, (fun z hz => absurd hz List.not_mem_nil)⟩) (by decide) (by decide) (hts _ lkL_handBack_1) (va_Nw.use rfl (hKS.2 (.castable "java/lang/IllegalStateException" "java/lang/IllegalStateException") (by decide +kernel))) h1 h2 h3 ?_
      refine lv_astore_n (lv' := [(3, .ref q9), (0, .ref h_x), (1, .int p0)]) hx hb dL_handBack_13 rfl hl (by decide) rfl (fun ls hl => ?_)
      refine lv_bipush (v := (-73)) hx hb dL_handBack_14 (by decide) ?_
      rw [hQQ]
      refine W.widen (k := 1) (n := 6) (Nat.le_of_ble_eq_true rfl) (Nat.le_of_ble_eq_true rfl) ?_
      exact W.iret hx hb hr (fun t ht hW => ⟨rfl, by rw [ht]; exact hP, hD, hS.F ht⟩) hS.2.2 dL_handBack_16
    have h := it_f h c1
    cases h
  · obtain ⟨v, w0⟩ := u
    have h := hk1 _ _ hu
    have hP : va_P D vwCl [(h_x, .inr (4, [.ref a_net, .ref a_now, .ref a_don, .ref a_wri, .ref h_per, .ref a_tho, .ref a_aft])), (h_per, .inr (2, [.ref h_hol, .int pg])), (h_hol, .inl (cI, 10, .inl w0))] H := hP
    have hD : va_D A [(h_x, .inr (4, [.ref a_net, .ref a_now, .ref a_don, .ref a_wri, .ref h_per, .ref a_tho, .ref a_aft])), (h_per, .inr (2, [.ref h_hol, .int pg])), (h_hol, .inl (cI, 10, .inl w0))] := hD
    show W p l e _ s m _ below meth c H locs _ _ QQ (F0 m 5 ls (.int v :: []))
    refine lv_istore_n (lv' := [(2, .int v), (0, .ref h_x), (1, .int p0)]) hx hb dL_handBack_5 rfl hl (by decide) rfl (fun ls hl => ?_)
    refine lv_goto (tgt := 17) hx hb dL_handBack_6 (by decide) ?_
    refine lv_iload_n hx hb dL_handBack_17 rfl (lv_at hl 0 rfl) ?_
    cases h
    rw [hQQ]
    refine W.widen (k := 1) (n := 6) (Nat.le_of_ble_eq_true rfl) (Nat.le_of_ble_eq_true rfl) ?_
    exact W.iret hx hb hr (fun t ht hW => ⟨rfl, by rw [ht]; exact hP, hD, hS.F ht⟩) hS.2.2 dL_handBack_18

def fL_toLive (N : Nat) (nc : Int32) (sc : Int32) (br : Int32) (so : Int32) (lo : Int32) (ends : Nat → Int32) (cl : Int32) (ea : Int32) (on : Int32) (p0 : Int32) : Option ((Int32)) :=
  bh1 (fX4_toLive N nc sc br so lo ends cl ea on p0) (fun E => (if E = "java/lang/IndexOutOfBoundsException" then some (-72) else (if E = "java/util/NoSuchElementException" then some (-74) else none))) (fun v => some v)
set_option maxRecDepth 100000 in
theorem lkL_toLive_0 : (.classLink RL 20 "java/lang/IndexOutOfBoundsException" : Cond) ∈ wsL_toLive := by decide +kernel
set_option maxRecDepth 100000 in
theorem lkL_toLive_1 : (.classLink RL 54 "java/util/NoSuchElementException" : Cond) ∈ wsL_toLive := by decide +kernel
abbrev rmL_toLive : Room := { frames := 8, cells := 2, slots := 12, locals := 126 }
set_option maxHeartbeats 4000000 in
set_option maxRecDepth 100000 in
theorem kL_toLive (l : Launch) (hl0 : l.stackTraces = false) (D : va_G) (cI cZ cL : ClassId) (sz0 : Nat) (h_x a_don a_wri a_per a_tho a_aft h_net h_ends h_now : Nat) (nc : Int32) (sc : Int32) (br : Int32) (so : Int32) (lo : Int32) (ends : Nat → Int32) (cl : Int32) (ea : Int32) (on : Int32) (p0 : Int32) (N : Nat) {r : Int32} (h : fL_toLive N nc sc br so lo ends cl ea on p0 = some r) : Met l yL_toLive wsL_toLive rmL_toLive (PH D cI cZ cL [.ref h_x, .int p0] [(h_x, .inr (4, [.ref h_net, .ref h_now, .ref a_don, .ref a_wri, .ref a_per, .ref a_tho, .ref a_aft])), (h_net, .inr (1, [.ref h_ends, .int nc, .int sc, .int br, .int so, .int lo])), (h_ends, .inl (cI, 24, .inl ends)), (h_now, .inr (3, [.int cl, .int ea, .int on]))] sz0) (QM D (some (.int r)) (va_A [(h_x, .inr (4, [.ref h_net, .ref h_now, .ref a_don, .ref a_wri, .ref a_per, .ref a_tho, .ref a_aft])), (h_net, .inr (1, [.ref h_ends, .int nc, .int sc, .int br, .int so, .int lo])), (h_ends, .inl (cI, 24, .inl ends)), (h_now, .inr (3, [.int cl, .int ea, .int on]))] sz0) [(h_x, .inr (4, [.ref h_net, .ref h_now, .ref a_don, .ref a_wri, .ref a_per, .ref a_tho, .ref a_aft])), (h_net, .inr (1, [.ref h_ends, .int nc, .int sc, .int br, .int so, .int lo])), (h_ends, .inl (cI, 24, .inl ends)), (h_now, .inr (3, [.int cl, .int ea, .int on]))]) 2 12 (va_A [(h_x, .inr (4, [.ref h_net, .ref h_now, .ref a_don, .ref a_wri, .ref a_per, .ref a_tho, .ref a_aft])), (h_net, .inr (1, [.ref h_ends, .int nc, .int sc, .int br, .int so, .int lo])), (h_ends, .inl (cI, 24, .inl ends)), (h_now, .inr (3, [.int cl, .int ea, .int on]))] sz0) := by
  refine zz_ofWH (cc := cL_toLive) (maxL := 4) (ret := (some .int)) (hh := [(0, 6, 9, 20), (0, 6, 13, 54)]) (by decide) rfl ?_
  intro p e s m args below meth c s₁ B hml hv
  obtain ⟨rfl, hsz, hP, hKK, hD0, hKS, hKZ, hKX⟩ := hv
  have hK := hKK.1
  have hx := B.exec
  have hb := B.bytes
  have hr := B.returns
  have hts := atoms_spec (ws := wsL_toLive) B.pre
  have hown : s.vm.findClass RL = some m.cls := findClass_of_methodNamed B.named
  have hlocks := B.notSynchronized
  have htab : c.exceptionTable.toList = [⟨0, 6, 9, 20⟩, ⟨0, 6, 13, 54⟩] := (vx_table (x := yL_toLive) B (hts (.codeWith yL_toLive cL_toLive 4 (some .int) [(0, 6, 9, 20), (0, 6, 13, 54)]) List.mem_cons_self)).trans rfl
  subst hsz
  have hD := hD0.self (sz := s.heap.size)
  generalize hAe : va_A [(h_x, .inr (4, [.ref h_net, .ref h_now, .ref a_don, .ref a_wri, .ref a_per, .ref a_tho, .ref a_aft])), (h_net, .inr (1, [.ref h_ends, .int nc, .int sc, .int br, .int so, .int lo])), (h_ends, .inl (cI, 24, .inl ends)), (h_now, .inr (3, [.int cl, .int ea, .int on]))] s.heap.size = A at hD hKZ ⊢
  have hA : ∀ q : Nat, s.heap.size ≤ q → A q := fun q h => by rw [← hAe]; exact Or.inr h
  have hS : va_S A s.heap s.heap [] := va_S.rf
  have hl := lv_entry ([.ref h_x, .int p0]) (n := 4) (Nat.le_of_ble_eq_true rfl)
  rw [lg_entry_eq]
  generalize (lg_sl ([.ref h_x, .int p0]) ++ List.replicate (4 - (lg_sl ([.ref h_x, .int p0])).length) Slot.unset).toArray = ls at hl ⊢
  have hl : lv_has ls 4 [(0, .ref h_x), (1, .int p0)] := hl
  obtain ⟨QQ, hQQ⟩ : ∃ Z, Z = MQ below (QM D (some (.int r)) A [(h_x, .inr (4, [.ref h_net, .ref h_now, .ref a_don, .ref a_wri, .ref a_per, .ref a_tho, .ref a_aft])), (h_net, .inr (1, [.ref h_ends, .int nc, .int sc, .int br, .int so, .int lo])), (h_ends, .inl (cI, 24, .inl ends)), (h_now, .inr (3, [.int cl, .int ea, .int on]))]) ([.ref h_x, .int p0] : List Value).toArray s 2 12 A := ⟨_, rfl⟩
  rw [← hQQ]
  obtain ⟨H, locs, hHe, hLe⟩ : ∃ (H : Heap) (locs : List Loc), H = s.heap ∧ locs = [] := ⟨_, _, rfl, rfl⟩
  have hP : va_P D vwCl [(h_x, .inr (4, [.ref h_net, .ref h_now, .ref a_don, .ref a_wri, .ref a_per, .ref a_tho, .ref a_aft])), (h_net, .inr (1, [.ref h_ends, .int nc, .int sc, .int br, .int so, .int lo])), (h_ends, .inl (cI, 24, .inl ends)), (h_now, .inr (3, [.int cl, .int ea, .int on]))] H := by rw [hHe]; exact hP
  have hS : va_S A s.heap H locs := by rw [hHe, hLe]; exact hS
  have hW0 : ∀ QQ : State → Prop, W p l e (headSpec wsL_toLive rmL_toLive).room s m (([.ref h_x, .int p0] : List Value).toArray) below meth c H locs 0 0 QQ (F0 m 0 ls []) → W p l e (headSpec wsL_toLive rmL_toLive).room s m (([.ref h_x, .int p0] : List Value).toArray) below meth c s.heap [] 0 0 QQ (F0 m 0 ls []) := by rw [hHe, hLe]; exact fun _ h => h
  refine hW0 _ ?_
  clear hW0
  unfold fL_toLive at h
  refine lv_aload_n hx hb dL_toLive_0 rfl (lv_at hl 0 rfl) ?_
  refine lv_iload_n hx hb dL_toLive_1 rfl (lv_at hl 1 rfl) ?_
  obtain ⟨Rr, hq, hx1, hk1⟩ := bh1_r h
  refine zz_xV (As := [.int p0]) (wr := []) (w1 := fun u : (Int32) => [(h_x, .inr (4, [.ref h_net, .ref h_now, .ref a_don, .ref a_wri, .ref a_per, .ref a_tho, .ref a_aft])), (h_net, .inr (1, [.ref h_ends, .int nc, .int sc, .int br, .int so, .int lo])), (h_ends, .inl (cI, 24, .inl ends)), (h_now, .inr (3, [.int cl, .int ea, .int on]))]) (wt' := fun u : (Int32) => [(h_x, .inr (4, [.ref h_net, .ref h_now, .ref a_don, .ref a_wri, .ref a_per, .ref a_tho, .ref a_aft])), (h_net, .inr (1, [.ref h_ends, .int nc, .int sc, .int br, .int so, .int lo])), (h_ends, .inl (cI, 24, .inl ends)), (h_now, .inr (3, [.int cl, .int ea, .int on]))]) (wc := [(h_x, .inr (4, [.ref h_net, .ref h_now, .ref a_don, .ref a_wri, .ref a_per, .ref a_tho, .ref a_aft])), (h_net, .inr (1, [.ref h_ends, .int nc, .int sc, .int br, .int so, .int lo])), (h_ends, .inl (cI, 24, .inl ends)), (h_now, .inr (3, [.int cl, .int ea, .int on]))]) (rv := fun u => some (.int u)) ⟨hx, hb, hml, hown, hts⟩ (k2X4_toLive l hl0 D cI cZ cL H.size h_x a_don a_wri a_per a_tho a_aft h_net h_ends h_now nc sc br so lo ends cl ea on p0 N hq) (cwV 1 hts gL_toLive_X4_toLive rfl rfl rfl (by decide +kernel) ⟨Nat.le_of_ble_eq_true rfl, Nat.le_of_ble_eq_true rfl⟩) hP hD hS hA hKK hKS hKZ [0, 1, 2, 3] [] [0, 1, 2, 3] rfl rfl (by decide) (by decide) (fun _ => rfl) rfl (by decide) (by decide) (va_recv hK hP (ci := 4) (q0 := 0) rfl rfl) rfl hl.1 rfl (Nat.le_of_ble_eq_true rfl) dL_toLive_2 ⟨Nat.le_of_ble_eq_true rfl, Nat.le_of_ble_eq_true rfl⟩ (fun E ce q9 H locs hE hP hD hS h1 h2 h3 => ?_) (fun u H locs hu hP hD hS => ?_)
  · have h := hx1 E hE
    by_cases c0 : E = "java/lang/IndexOutOfBoundsException"
    · have h := it_t h c0
      subst c0
      cases h
      refine vx_catch (own := RL) (name := "java/lang/IndexOutOfBoundsException") hown [] ⟨0, 6, 9, 20⟩ [⟨0, 6, 13, 54⟩] htab (fun z hz => absurd hz List.not_mem_nil) (by decide) (by decide) (hts _ lkL_toLive_0) (va_Nw.use rfl (hKS.2 (.castable "java/lang/IndexOutOfBoundsException" "java/lang/IndexOutOfBoundsException") (by decide +kernel))) h1 h2 h3 ?_
      refine lv_astore_n (lv' := [(3, .ref q9), (0, .ref h_x), (1, .int p0)]) hx hb dL_toLive_9 rfl hl (by decide) rfl (fun ls hl => ?_)
      refine lv_bipush (v := (-72)) hx hb dL_toLive_10 (by decide) ?_
      rw [hQQ]
      refine W.widen (k := 2) (n := 12) (Nat.le_of_ble_eq_true rfl) (Nat.le_of_ble_eq_true rfl) ?_
      exact W.iret hx hb hr (fun t ht hW => ⟨rfl, by rw [ht]; exact hP, hD, hS.F ht⟩) hS.2.2 dL_toLive_12
    have h := it_f h c0
    by_cases c1 : E = "java/util/NoSuchElementException"
    · have h := it_t h c1
      subst c1
      cases h
      refine vx_catch (own := RL) (name := "java/util/NoSuchElementException") hown [⟨0, 6, 9, 20⟩] ⟨0, 6, 13, 54⟩ [] htab (List.forall_mem_cons.mpr ⟨Or.inr ⟨by decide, ⟨"java/lang/IndexOutOfBoundsException", hts _ lkL_toLive_0, hKX ("java/util/NoSuchElementException", "java/lang/IndexOutOfBoundsException") (by decide)⟩⟩, (fun z hz => absurd hz List.not_mem_nil)⟩) (by decide) (by decide) (hts _ lkL_toLive_1) (va_Nw.use rfl (hKS.2 (.castable "java/util/NoSuchElementException" "java/util/NoSuchElementException") (by decide +kernel))) h1 h2 h3 ?_
      refine lv_astore_n (lv' := [(3, .ref q9), (0, .ref h_x), (1, .int p0)]) hx hb dL_toLive_13 rfl hl (by decide) rfl (fun ls hl => ?_)
      refine lv_bipush (v := (-74)) hx hb dL_toLive_14 (by decide) ?_
      rw [hQQ]
      refine W.widen (k := 2) (n := 12) (Nat.le_of_ble_eq_true rfl) (Nat.le_of_ble_eq_true rfl) ?_
      exact W.iret hx hb hr (fun t ht hW => ⟨rfl, by rw [ht]; exact hP, hD, hS.F ht⟩) hS.2.2 dL_toLive_16
    have h := it_f h c1
    cases h
  · obtain ⟨v, rfl⟩ : ∃ z, z = u := ⟨_, rfl⟩
    have h := hk1 _ hu
    have hP : va_P D vwCl [(h_x, .inr (4, [.ref h_net, .ref h_now, .ref a_don, .ref a_wri, .ref a_per, .ref a_tho, .ref a_aft])), (h_net, .inr (1, [.ref h_ends, .int nc, .int sc, .int br, .int so, .int lo])), (h_ends, .inl (cI, 24, .inl ends)), (h_now, .inr (3, [.int cl, .int ea, .int on]))] H := hP
    have hD : va_D A [(h_x, .inr (4, [.ref h_net, .ref h_now, .ref a_don, .ref a_wri, .ref a_per, .ref a_tho, .ref a_aft])), (h_net, .inr (1, [.ref h_ends, .int nc, .int sc, .int br, .int so, .int lo])), (h_ends, .inl (cI, 24, .inl ends)), (h_now, .inr (3, [.int cl, .int ea, .int on]))] := hD
    show W p l e _ s m _ below meth c H locs _ _ QQ (F0 m 5 ls (.int v :: []))
    refine lv_istore_n (lv' := [(2, .int v), (0, .ref h_x), (1, .int p0)]) hx hb dL_toLive_5 rfl hl (by decide) rfl (fun ls hl => ?_)
    refine lv_goto (tgt := 17) hx hb dL_toLive_6 (by decide) ?_
    refine lv_iload_n hx hb dL_toLive_17 rfl (lv_at hl 0 rfl) ?_
    cases h
    rw [hQQ]
    refine W.widen (k := 2) (n := 12) (Nat.le_of_ble_eq_true rfl) (Nat.le_of_ble_eq_true rfl) ?_
    exact W.iret hx hb hr (fun t ht hW => ⟨rfl, by rw [ht]; exact hP, hD, hS.F ht⟩) hS.2.2 dL_toLive_18

def fL_part (N : Nat) (nc : Int32) (sc : Int32) (br : Int32) (so : Int32) (lo : Int32) (ends : Nat → Int32) (cl : Int32) (ea : Int32) (on : Int32) (p0 : Int32) : Option ((Int32)) :=
  bh1 (fX4_part N nc sc br so lo ends cl ea on p0) (fun E => (if E = "java/lang/IndexOutOfBoundsException" then some (-72) else none)) (fun v => some v)
set_option maxRecDepth 100000 in
theorem lkL_part_0 : (.classLink RL 20 "java/lang/IndexOutOfBoundsException" : Cond) ∈ wsL_part := by decide +kernel
abbrev rmL_part : Room := { frames := 8, cells := 1, slots := 6, locals := 124 }
set_option maxHeartbeats 4000000 in
set_option maxRecDepth 100000 in
theorem kL_part (l : Launch) (hl0 : l.stackTraces = false) (D : va_G) (cI cZ cL : ClassId) (sz0 : Nat) (h_x a_don a_wri a_per a_tho a_aft h_net h_ends h_now : Nat) (nc : Int32) (sc : Int32) (br : Int32) (so : Int32) (lo : Int32) (ends : Nat → Int32) (cl : Int32) (ea : Int32) (on : Int32) (p0 : Int32) (N : Nat) {r : Int32} (h : fL_part N nc sc br so lo ends cl ea on p0 = some r) : Met l yL_part wsL_part rmL_part (PH D cI cZ cL [.ref h_x, .int p0] [(h_x, .inr (4, [.ref h_net, .ref h_now, .ref a_don, .ref a_wri, .ref a_per, .ref a_tho, .ref a_aft])), (h_net, .inr (1, [.ref h_ends, .int nc, .int sc, .int br, .int so, .int lo])), (h_ends, .inl (cI, 24, .inl ends)), (h_now, .inr (3, [.int cl, .int ea, .int on]))] sz0) (QM D (some (.int r)) (va_A [(h_x, .inr (4, [.ref h_net, .ref h_now, .ref a_don, .ref a_wri, .ref a_per, .ref a_tho, .ref a_aft])), (h_net, .inr (1, [.ref h_ends, .int nc, .int sc, .int br, .int so, .int lo])), (h_ends, .inl (cI, 24, .inl ends)), (h_now, .inr (3, [.int cl, .int ea, .int on]))] sz0) [(h_x, .inr (4, [.ref h_net, .ref h_now, .ref a_don, .ref a_wri, .ref a_per, .ref a_tho, .ref a_aft])), (h_net, .inr (1, [.ref h_ends, .int nc, .int sc, .int br, .int so, .int lo])), (h_ends, .inl (cI, 24, .inl ends)), (h_now, .inr (3, [.int cl, .int ea, .int on]))]) 1 6 (va_A [(h_x, .inr (4, [.ref h_net, .ref h_now, .ref a_don, .ref a_wri, .ref a_per, .ref a_tho, .ref a_aft])), (h_net, .inr (1, [.ref h_ends, .int nc, .int sc, .int br, .int so, .int lo])), (h_ends, .inl (cI, 24, .inl ends)), (h_now, .inr (3, [.int cl, .int ea, .int on]))] sz0) := by
  refine zz_ofWH (cc := cL_part) (maxL := 4) (ret := (some .int)) (hh := [(0, 6, 9, 20)]) (by decide) rfl ?_
  intro p e s m args below meth c s₁ B hml hv
  obtain ⟨rfl, hsz, hP, hKK, hD0, hKS, hKZ, hKX⟩ := hv
  have hK := hKK.1
  have hx := B.exec
  have hb := B.bytes
  have hr := B.returns
  have hts := atoms_spec (ws := wsL_part) B.pre
  have hown : s.vm.findClass RL = some m.cls := findClass_of_methodNamed B.named
  have hlocks := B.notSynchronized
  have htab : c.exceptionTable.toList = [⟨0, 6, 9, 20⟩] := (vx_table (x := yL_part) B (hts (.codeWith yL_part cL_part 4 (some .int) [(0, 6, 9, 20)]) List.mem_cons_self)).trans rfl
  subst hsz
  have hD := hD0.self (sz := s.heap.size)
  generalize hAe : va_A [(h_x, .inr (4, [.ref h_net, .ref h_now, .ref a_don, .ref a_wri, .ref a_per, .ref a_tho, .ref a_aft])), (h_net, .inr (1, [.ref h_ends, .int nc, .int sc, .int br, .int so, .int lo])), (h_ends, .inl (cI, 24, .inl ends)), (h_now, .inr (3, [.int cl, .int ea, .int on]))] s.heap.size = A at hD hKZ ⊢
  have hA : ∀ q : Nat, s.heap.size ≤ q → A q := fun q h => by rw [← hAe]; exact Or.inr h
  have hS : va_S A s.heap s.heap [] := va_S.rf
  have hl := lv_entry ([.ref h_x, .int p0]) (n := 4) (Nat.le_of_ble_eq_true rfl)
  rw [lg_entry_eq]
  generalize (lg_sl ([.ref h_x, .int p0]) ++ List.replicate (4 - (lg_sl ([.ref h_x, .int p0])).length) Slot.unset).toArray = ls at hl ⊢
  have hl : lv_has ls 4 [(0, .ref h_x), (1, .int p0)] := hl
  obtain ⟨QQ, hQQ⟩ : ∃ Z, Z = MQ below (QM D (some (.int r)) A [(h_x, .inr (4, [.ref h_net, .ref h_now, .ref a_don, .ref a_wri, .ref a_per, .ref a_tho, .ref a_aft])), (h_net, .inr (1, [.ref h_ends, .int nc, .int sc, .int br, .int so, .int lo])), (h_ends, .inl (cI, 24, .inl ends)), (h_now, .inr (3, [.int cl, .int ea, .int on]))]) ([.ref h_x, .int p0] : List Value).toArray s 1 6 A := ⟨_, rfl⟩
  rw [← hQQ]
  obtain ⟨H, locs, hHe, hLe⟩ : ∃ (H : Heap) (locs : List Loc), H = s.heap ∧ locs = [] := ⟨_, _, rfl, rfl⟩
  have hP : va_P D vwCl [(h_x, .inr (4, [.ref h_net, .ref h_now, .ref a_don, .ref a_wri, .ref a_per, .ref a_tho, .ref a_aft])), (h_net, .inr (1, [.ref h_ends, .int nc, .int sc, .int br, .int so, .int lo])), (h_ends, .inl (cI, 24, .inl ends)), (h_now, .inr (3, [.int cl, .int ea, .int on]))] H := by rw [hHe]; exact hP
  have hS : va_S A s.heap H locs := by rw [hHe, hLe]; exact hS
  have hW0 : ∀ QQ : State → Prop, W p l e (headSpec wsL_part rmL_part).room s m (([.ref h_x, .int p0] : List Value).toArray) below meth c H locs 0 0 QQ (F0 m 0 ls []) → W p l e (headSpec wsL_part rmL_part).room s m (([.ref h_x, .int p0] : List Value).toArray) below meth c s.heap [] 0 0 QQ (F0 m 0 ls []) := by rw [hHe, hLe]; exact fun _ h => h
  refine hW0 _ ?_
  clear hW0
  unfold fL_part at h
  refine lv_aload_n hx hb dL_part_0 rfl (lv_at hl 0 rfl) ?_
  refine lv_iload_n hx hb dL_part_1 rfl (lv_at hl 1 rfl) ?_
  obtain ⟨Rr, hq, hx1, hk1⟩ := bh1_r h
  refine zz_xV (As := [.int p0]) (wr := []) (w1 := fun u : (Int32) => [(h_x, .inr (4, [.ref h_net, .ref h_now, .ref a_don, .ref a_wri, .ref a_per, .ref a_tho, .ref a_aft])), (h_net, .inr (1, [.ref h_ends, .int nc, .int sc, .int br, .int so, .int lo])), (h_ends, .inl (cI, 24, .inl ends)), (h_now, .inr (3, [.int cl, .int ea, .int on]))]) (wt' := fun u : (Int32) => [(h_x, .inr (4, [.ref h_net, .ref h_now, .ref a_don, .ref a_wri, .ref a_per, .ref a_tho, .ref a_aft])), (h_net, .inr (1, [.ref h_ends, .int nc, .int sc, .int br, .int so, .int lo])), (h_ends, .inl (cI, 24, .inl ends)), (h_now, .inr (3, [.int cl, .int ea, .int on]))]) (wc := [(h_x, .inr (4, [.ref h_net, .ref h_now, .ref a_don, .ref a_wri, .ref a_per, .ref a_tho, .ref a_aft])), (h_net, .inr (1, [.ref h_ends, .int nc, .int sc, .int br, .int so, .int lo])), (h_ends, .inl (cI, 24, .inl ends)), (h_now, .inr (3, [.int cl, .int ea, .int on]))]) (rv := fun u => some (.int u)) ⟨hx, hb, hml, hown, hts⟩ (kX4_part l hl0 D cI cZ cL H.size h_x a_don a_wri a_per a_tho a_aft h_net h_ends h_now nc sc br so lo ends cl ea on p0 N hq) (cwV 1 hts gL_part_X4_part rfl rfl rfl (by decide +kernel) ⟨Nat.le_of_ble_eq_true rfl, Nat.le_of_ble_eq_true rfl⟩) hP hD hS hA hKK hKS hKZ [0, 1, 2, 3] [] [0, 1, 2, 3] rfl rfl (by decide) (by decide) (fun _ => rfl) rfl (by decide) (by decide) (va_recv hK hP (ci := 4) (q0 := 0) rfl rfl) rfl hl.1 rfl (Nat.le_of_ble_eq_true rfl) dL_part_2 ⟨Nat.le_of_ble_eq_true rfl, Nat.le_of_ble_eq_true rfl⟩ (fun E ce q9 H locs hE hP hD hS h1 h2 h3 => ?_) (fun u H locs hu hP hD hS => ?_)
  · have h := hx1 E hE
    by_cases c0 : E = "java/lang/IndexOutOfBoundsException"
    · have h := it_t h c0
      subst c0
      cases h
      refine vx_catch (own := RL) (name := "java/lang/IndexOutOfBoundsException") hown [] ⟨0, 6, 9, 20⟩ [] htab (fun z hz => absurd hz List.not_mem_nil) (by decide) (by decide) (hts _ lkL_part_0) (va_Nw.use rfl (hKS.2 (.castable "java/lang/IndexOutOfBoundsException" "java/lang/IndexOutOfBoundsException") (by decide +kernel))) h1 h2 h3 ?_
      refine lv_astore_n (lv' := [(3, .ref q9), (0, .ref h_x), (1, .int p0)]) hx hb dL_part_9 rfl hl (by decide) rfl (fun ls hl => ?_)
      refine lv_bipush (v := (-72)) hx hb dL_part_10 (by decide) ?_
      rw [hQQ]
      refine W.widen (k := 1) (n := 6) (Nat.le_of_ble_eq_true rfl) (Nat.le_of_ble_eq_true rfl) ?_
      exact W.iret hx hb hr (fun t ht hW => ⟨rfl, by rw [ht]; exact hP, hD, hS.F ht⟩) hS.2.2 dL_part_12
    have h := it_f h c0
    cases h
  · obtain ⟨v, rfl⟩ : ∃ z, z = u := ⟨_, rfl⟩
    have h := hk1 _ hu
    have hP : va_P D vwCl [(h_x, .inr (4, [.ref h_net, .ref h_now, .ref a_don, .ref a_wri, .ref a_per, .ref a_tho, .ref a_aft])), (h_net, .inr (1, [.ref h_ends, .int nc, .int sc, .int br, .int so, .int lo])), (h_ends, .inl (cI, 24, .inl ends)), (h_now, .inr (3, [.int cl, .int ea, .int on]))] H := hP
    have hD : va_D A [(h_x, .inr (4, [.ref h_net, .ref h_now, .ref a_don, .ref a_wri, .ref a_per, .ref a_tho, .ref a_aft])), (h_net, .inr (1, [.ref h_ends, .int nc, .int sc, .int br, .int so, .int lo])), (h_ends, .inl (cI, 24, .inl ends)), (h_now, .inr (3, [.int cl, .int ea, .int on]))] := hD
    show W p l e _ s m _ below meth c H locs _ _ QQ (F0 m 5 ls (.int v :: []))
    refine lv_istore_n (lv' := [(2, .int v), (0, .ref h_x), (1, .int p0)]) hx hb dL_part_5 rfl hl (by decide) rfl (fun ls hl => ?_)
    refine lv_goto (tgt := 13) hx hb dL_part_6 (by decide) ?_
    refine lv_iload_n hx hb dL_part_13 rfl (lv_at hl 0 rfl) ?_
    cases h
    rw [hQQ]
    refine W.widen (k := 1) (n := 6) (Nat.le_of_ble_eq_true rfl) (Nat.le_of_ble_eq_true rfl) ?_
    exact W.iret hx hb hr (fun t ht hW => ⟨rfl, by rw [ht]; exact hP, hD, hS.F ht⟩) hS.2.2 dL_part_14
