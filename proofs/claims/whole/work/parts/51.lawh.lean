def fL_addNode (N : Nat) (nc : Int32) (sc : Int32) (br : Int32) (so : Int32) (lo : Int32) (out : Nat → Int64) (p0 : Int32) (p1 : Int32) : Option ((Int32) × (Int32) × (Int32) × (Int32) × (Nat → Int64)) :=
  bh4 (fX4_addNode N nc sc br so lo p0 p1) (fun E => (if E = "java/lang/IllegalStateException" then some (1, nc, so, lo, out) else none)) (fun v w0 w1 w2 => some (0, w0, w1, w2, vp_updL out (0 : Int32).toNatClampNeg v.toInt64))
set_option maxRecDepth 100000 in
theorem lkL_addNode_0 : (.classLink RL 13 "java/lang/IllegalStateException" : Cond) ∈ wsL_addNode := by decide +kernel
abbrev rmL_addNode : Room := { frames := 7, cells := 1, slots := 6, locals := 104 }
set_option maxHeartbeats 4000000 in
set_option maxRecDepth 100000 in
theorem kL_addNode (l : Launch) (hl0 : l.stackTraces = false) (D : va_G) (cI cZ cL : ClassId) (sz0 : Nat) (h_x a_now a_don a_wri a_per a_tho a_aft h_net a_ends h_out : Nat) (nc : Int32) (sc : Int32) (br : Int32) (so : Int32) (lo : Int32) (out : Nat → Int64) (p0 : Int32) (p1 : Int32) (N : Nat) {r : Int32} {r_0 : Int32} {r_1 : Int32} {r_2 : Int32} {r_out : Nat → Int64} (h : fL_addNode N nc sc br so lo out p0 p1 = some (r, r_0, r_1, r_2, r_out)) : Met l yL_addNode wsL_addNode rmL_addNode (PH D cI cZ cL [.ref h_x, .int p0, .int p1, .ref h_out] [(h_x, .inr (4, [.ref h_net, .ref a_now, .ref a_don, .ref a_wri, .ref a_per, .ref a_tho, .ref a_aft])), (h_net, .inr (1, [.ref a_ends, .int nc, .int sc, .int br, .int so, .int lo])), (h_out, .inl (cL, 1, .inr (.inl out)))] sz0) (QM D (some (.int r)) (va_A [(h_x, .inr (4, [.ref h_net, .ref a_now, .ref a_don, .ref a_wri, .ref a_per, .ref a_tho, .ref a_aft])), (h_net, .inr (1, [.ref a_ends, .int nc, .int sc, .int br, .int so, .int lo])), (h_out, .inl (cL, 1, .inr (.inl out)))] sz0) [(h_x, .inr (4, [.ref h_net, .ref a_now, .ref a_don, .ref a_wri, .ref a_per, .ref a_tho, .ref a_aft])), (h_net, .inr (1, [.ref a_ends, .int r_0, .int sc, .int br, .int r_1, .int r_2])), (h_out, .inl (cL, 1, .inr (.inl r_out)))]) 1 6 (va_A [(h_x, .inr (4, [.ref h_net, .ref a_now, .ref a_don, .ref a_wri, .ref a_per, .ref a_tho, .ref a_aft])), (h_net, .inr (1, [.ref a_ends, .int nc, .int sc, .int br, .int so, .int lo])), (h_out, .inl (cL, 1, .inr (.inl out)))] sz0) := by
  refine zz_ofWH (cc := cL_addNode) (maxL := 5) (ret := (some .int)) (hh := [(0, 10, 13, 13)]) (by decide) rfl ?_
  intro p e s m args below meth c s₁ B hml hv
  obtain ⟨rfl, hsz, hP, hKK, hD0, hKS, hKZ, hKX⟩ := hv
  have hK := hKK.1
  have hx := B.exec
  have hb := B.bytes
  have hr := B.returns
  have hts := atoms_spec (ws := wsL_addNode) B.pre
  have hown : s.vm.findClass RL = some m.cls := findClass_of_methodNamed B.named
  have hlocks := B.notSynchronized
  have htab : c.exceptionTable.toList = [⟨0, 10, 13, 13⟩] := (vx_table (x := yL_addNode) B (hts (.codeWith yL_addNode cL_addNode 5 (some .int) [(0, 10, 13, 13)]) List.mem_cons_self)).trans rfl
  subst hsz
  have hD := hD0.self (sz := s.heap.size)
  generalize hAe : va_A [(h_x, .inr (4, [.ref h_net, .ref a_now, .ref a_don, .ref a_wri, .ref a_per, .ref a_tho, .ref a_aft])), (h_net, .inr (1, [.ref a_ends, .int nc, .int sc, .int br, .int so, .int lo])), (h_out, .inl (cL, 1, .inr (.inl out)))] s.heap.size = A at hD hKZ ⊢
  have hA : ∀ q : Nat, s.heap.size ≤ q → A q := fun q h => by rw [← hAe]; exact Or.inr h
  have hS : va_S A s.heap s.heap [] := va_S.rf
  have hl := lv_entry ([.ref h_x, .int p0, .int p1, .ref h_out]) (n := 5) (Nat.le_of_ble_eq_true rfl)
  rw [lg_entry_eq]
  generalize (lg_sl ([.ref h_x, .int p0, .int p1, .ref h_out]) ++ List.replicate (5 - (lg_sl ([.ref h_x, .int p0, .int p1, .ref h_out])).length) Slot.unset).toArray = ls at hl ⊢
  have hl : lv_has ls 5 [(0, .ref h_x), (1, .int p0), (2, .int p1), (3, .ref h_out)] := hl
  obtain ⟨QQ, hQQ⟩ : ∃ Z, Z = MQ below (QM D (some (.int r)) A [(h_x, .inr (4, [.ref h_net, .ref a_now, .ref a_don, .ref a_wri, .ref a_per, .ref a_tho, .ref a_aft])), (h_net, .inr (1, [.ref a_ends, .int r_0, .int sc, .int br, .int r_1, .int r_2])), (h_out, .inl (cL, 1, .inr (.inl r_out)))]) ([.ref h_x, .int p0, .int p1, .ref h_out] : List Value).toArray s 1 6 A := ⟨_, rfl⟩
  rw [← hQQ]
  obtain ⟨H, locs, hHe, hLe⟩ : ∃ (H : Heap) (locs : List Loc), H = s.heap ∧ locs = [] := ⟨_, _, rfl, rfl⟩
  have hP : va_P D vwCl [(h_x, .inr (4, [.ref h_net, .ref a_now, .ref a_don, .ref a_wri, .ref a_per, .ref a_tho, .ref a_aft])), (h_net, .inr (1, [.ref a_ends, .int nc, .int sc, .int br, .int so, .int lo])), (h_out, .inl (cL, 1, .inr (.inl out)))] H := by rw [hHe]; exact hP
  have hS : va_S A s.heap H locs := by rw [hHe, hLe]; exact hS
  have hW0 : ∀ QQ : State → Prop, W p l e (headSpec wsL_addNode rmL_addNode).room s m (([.ref h_x, .int p0, .int p1, .ref h_out] : List Value).toArray) below meth c H locs 0 0 QQ (F0 m 0 ls []) → W p l e (headSpec wsL_addNode rmL_addNode).room s m (([.ref h_x, .int p0, .int p1, .ref h_out] : List Value).toArray) below meth c s.heap [] 0 0 QQ (F0 m 0 ls []) := by rw [hHe, hLe]; exact fun _ h => h
  refine hW0 _ ?_
  clear hW0
  unfold fL_addNode at h
  refine lv_aload_n hx hb dL_addNode_0 rfl (lv_at hl 3 rfl) ?_
  refine lv_iconst (v := 0) hx hb dL_addNode_1 (by decide) ?_
  refine lv_aload_n hx hb dL_addNode_2 rfl (lv_at hl 0 rfl) ?_
  refine lv_iload_n hx hb dL_addNode_3 rfl (lv_at hl 1 rfl) ?_
  refine lv_iload_n hx hb dL_addNode_4 rfl (lv_at hl 2 rfl) ?_
  obtain ⟨Rr, hq, hx1, hk1⟩ := bh4_r h
  refine zz_xV (As := [.int p0, .int p1]) (wr := [(h_out, .inl (cL, 1, .inr (.inl out)))]) (w1 := fun u : (Int32) × (Int32) × (Int32) × (Int32) => [(h_x, .inr (4, [.ref h_net, .ref a_now, .ref a_don, .ref a_wri, .ref a_per, .ref a_tho, .ref a_aft])), (h_net, .inr (1, [.ref a_ends, .int u.2.1, .int sc, .int br, .int u.2.2.1, .int u.2.2.2]))]) (wt' := fun u : (Int32) × (Int32) × (Int32) × (Int32) => [(h_x, .inr (4, [.ref h_net, .ref a_now, .ref a_don, .ref a_wri, .ref a_per, .ref a_tho, .ref a_aft])), (h_net, .inr (1, [.ref a_ends, .int u.2.1, .int sc, .int br, .int u.2.2.1, .int u.2.2.2])), (h_out, .inl (cL, 1, .inr (.inl out)))]) (wc := [(h_x, .inr (4, [.ref h_net, .ref a_now, .ref a_don, .ref a_wri, .ref a_per, .ref a_tho, .ref a_aft])), (h_net, .inr (1, [.ref a_ends, .int nc, .int sc, .int br, .int so, .int lo]))]) (rv := fun u => some (.int u.1)) ⟨hx, hb, hml, hown, hts⟩ (kX4_addNode l hl0 D cI cZ cL H.size h_x a_now a_don a_wri a_per a_tho a_aft h_net a_ends nc sc br so lo p0 p1 N hq) (cwV 2 hts gL_addNode_X4_addNode rfl rfl rfl (by decide +kernel) ⟨Nat.le_of_ble_eq_true rfl, Nat.le_of_ble_eq_true rfl⟩) hP hD hS hA hKK hKS hKZ [0, 1] [2] [1, 2, 0] rfl rfl (by decide) (by decide) (fun _ => rfl) rfl (by decide) (by decide) (va_recv hK hP (ci := 4) (q0 := 0) rfl rfl) rfl hl.1 rfl (Nat.le_of_ble_eq_true rfl) dL_addNode_5 ⟨Nat.le_of_ble_eq_true rfl, Nat.le_of_ble_eq_true rfl⟩ (fun E ce q9 H locs hE hP hD hS h1 h2 h3 => ?_) (fun u H locs hu hP hD hS => ?_)
  · have h := hx1 E hE
    by_cases c0 : E = "java/lang/IllegalStateException"
    · have h := it_t h c0
      subst c0
      cases h
      refine vx_catch (own := RL) (name := "java/lang/IllegalStateException") hown [] ⟨0, 10, 13, 13⟩ [] htab (fun z hz => absurd hz List.not_mem_nil) (by decide) (by decide) (hts _ lkL_addNode_0) (va_Nw.use rfl (hKS.2 (.castable "java/lang/IllegalStateException" "java/lang/IllegalStateException") (by decide +kernel))) h1 h2 h3 ?_
      refine lv_astore (lv' := [(4, .ref q9), (0, .ref h_x), (1, .int p0), (2, .int p1), (3, .ref h_out)]) hx hb dL_addNode_13 hl (by decide) rfl (fun ls hl => ?_)
      refine lv_iconst (v := 1) hx hb dL_addNode_15 (by decide) ?_
      rw [hQQ]
      refine W.widen (k := 1) (n := 6) (Nat.le_of_ble_eq_true rfl) (Nat.le_of_ble_eq_true rfl) ?_
      exact W.iret hx hb hr (fun t ht hW => ⟨rfl, by rw [ht]; exact hP, hD, hS.F ht⟩) hS.2.2 dL_addNode_16
    have h := it_f h c0
    cases h
  · obtain ⟨v, w0, w1, w2⟩ := u
    have h := hk1 _ _ _ _ hu
    have hP : va_P D vwCl [(h_x, .inr (4, [.ref h_net, .ref a_now, .ref a_don, .ref a_wri, .ref a_per, .ref a_tho, .ref a_aft])), (h_net, .inr (1, [.ref a_ends, .int w0, .int sc, .int br, .int w1, .int w2])), (h_out, .inl (cL, 1, .inr (.inl out)))] H := hP
    have hD : va_D A [(h_x, .inr (4, [.ref h_net, .ref a_now, .ref a_don, .ref a_wri, .ref a_per, .ref a_tho, .ref a_aft])), (h_net, .inr (1, [.ref a_ends, .int w0, .int sc, .int br, .int w1, .int w2])), (h_out, .inl (cL, 1, .inr (.inl out)))] := hD
    show W p l e _ s m _ below meth c H locs _ _ QQ (F0 m 8 ls (.int v :: [.int 0, .ref h_out]))
    refine lv_i2l (v := v.toInt64) hx hb dL_addNode_8 rfl ?_
    refine va_last hx hb hK hP hD hS 2 2 rfl rfl (by unfold vp_in; decide) dL_addNode_9 (fun H locs hP hD hS => ?_)
    have hP : va_P D vwCl [(h_x, .inr (4, [.ref h_net, .ref a_now, .ref a_don, .ref a_wri, .ref a_per, .ref a_tho, .ref a_aft])), (h_net, .inr (1, [.ref a_ends, .int w0, .int sc, .int br, .int w1, .int w2])), (h_out, .inl (cL, 1, .inr (.inl (vp_updL out (0 : Int32).toNatClampNeg v.toInt64))))] H := hP
    have hD : va_D A [(h_x, .inr (4, [.ref h_net, .ref a_now, .ref a_don, .ref a_wri, .ref a_per, .ref a_tho, .ref a_aft])), (h_net, .inr (1, [.ref a_ends, .int w0, .int sc, .int br, .int w1, .int w2])), (h_out, .inl (cL, 1, .inr (.inl (vp_updL out (0 : Int32).toNatClampNeg v.toInt64))))] := hD
    refine lv_goto (tgt := 17) hx hb dL_addNode_10 (by decide) ?_
    refine lv_iconst (v := 0) hx hb dL_addNode_17 (by decide) ?_
    cases h
    rw [hQQ]
    refine W.widen (k := 1) (n := 6) (Nat.le_of_ble_eq_true rfl) (Nat.le_of_ble_eq_true rfl) ?_
    exact W.iret hx hb hr (fun t ht hW => ⟨rfl, by rw [ht]; exact hP, hD, hS.F ht⟩) hS.2.2 dL_addNode_18

def fL_addSwitch (N : Nat) (nc : Int32) (sc : Int32) (br : Int32) (so : Int32) (lo : Int32) (ends : Nat → Int32) (out : Nat → Int64) (p0 : Int32) (p1 : Int32) (p2 : Int32) : Option ((Int32) × (Nat → Int32) × (Int32) × (Int32) × (Nat → Int64)) :=
  bh4 (fX4_addSwitch N nc sc br so lo ends p0 p1 p2) (fun E => (if E = "java/lang/IndexOutOfBoundsException" then some (1, ends, sc, br, out) else (if E = "java/lang/IllegalArgumentException" then some (2, ends, sc, br, out) else (if E = "java/lang/IllegalStateException" then some (3, ends, sc, br, out) else none)))) (fun v w0 w1 w2 => some (0, w0, w1, w2, vp_updL out (0 : Int32).toNatClampNeg v.toInt64))
set_option maxRecDepth 100000 in
theorem lkL_addSwitch_0 : (.classLink RL 19 "java/lang/IndexOutOfBoundsException" : Cond) ∈ wsL_addSwitch := by decide +kernel
set_option maxRecDepth 100000 in
theorem lkL_addSwitch_1 : (.classLink RL 21 "java/lang/IllegalArgumentException" : Cond) ∈ wsL_addSwitch := by decide +kernel
set_option maxRecDepth 100000 in
theorem lkL_addSwitch_2 : (.classLink RL 13 "java/lang/IllegalStateException" : Cond) ∈ wsL_addSwitch := by decide +kernel
abbrev rmL_addSwitch : Room := { frames := 8, cells := 3, slots := 18, locals := 126 }
set_option maxHeartbeats 4000000 in
set_option maxRecDepth 100000 in
theorem kL_addSwitch (l : Launch) (hl0 : l.stackTraces = false) (D : va_G) (cI cZ cL : ClassId) (sz0 : Nat) (h_x a_now a_don a_wri a_per a_tho a_aft h_net h_ends h_out : Nat) (nc : Int32) (sc : Int32) (br : Int32) (so : Int32) (lo : Int32) (ends : Nat → Int32) (out : Nat → Int64) (p0 : Int32) (p1 : Int32) (p2 : Int32) (N : Nat) {r : Int32} {r_0 : Nat → Int32} {r_1 : Int32} {r_2 : Int32} {r_out : Nat → Int64} (h : fL_addSwitch N nc sc br so lo ends out p0 p1 p2 = some (r, r_0, r_1, r_2, r_out)) : Met l yL_addSwitch wsL_addSwitch rmL_addSwitch (PH D cI cZ cL [.ref h_x, .int p0, .int p1, .int p2, .ref h_out] [(h_x, .inr (4, [.ref h_net, .ref a_now, .ref a_don, .ref a_wri, .ref a_per, .ref a_tho, .ref a_aft])), (h_net, .inr (1, [.ref h_ends, .int nc, .int sc, .int br, .int so, .int lo])), (h_ends, .inl (cI, 24, .inl ends)), (h_out, .inl (cL, 1, .inr (.inl out)))] sz0) (QM D (some (.int r)) (va_A [(h_x, .inr (4, [.ref h_net, .ref a_now, .ref a_don, .ref a_wri, .ref a_per, .ref a_tho, .ref a_aft])), (h_net, .inr (1, [.ref h_ends, .int nc, .int sc, .int br, .int so, .int lo])), (h_ends, .inl (cI, 24, .inl ends)), (h_out, .inl (cL, 1, .inr (.inl out)))] sz0) [(h_x, .inr (4, [.ref h_net, .ref a_now, .ref a_don, .ref a_wri, .ref a_per, .ref a_tho, .ref a_aft])), (h_net, .inr (1, [.ref h_ends, .int nc, .int r_1, .int r_2, .int so, .int lo])), (h_ends, .inl (cI, 24, .inl r_0)), (h_out, .inl (cL, 1, .inr (.inl r_out)))]) 3 18 (va_A [(h_x, .inr (4, [.ref h_net, .ref a_now, .ref a_don, .ref a_wri, .ref a_per, .ref a_tho, .ref a_aft])), (h_net, .inr (1, [.ref h_ends, .int nc, .int sc, .int br, .int so, .int lo])), (h_ends, .inl (cI, 24, .inl ends)), (h_out, .inl (cL, 1, .inr (.inl out)))] sz0) := by
  refine zz_ofWH (cc := cL_addSwitch) (maxL := 6) (ret := (some .int)) (hh := [(0, 12, 15, 19), (0, 12, 19, 21), (0, 12, 23, 13)]) (by decide) rfl ?_
  intro p e s m args below meth c s₁ B hml hv
  obtain ⟨rfl, hsz, hP, hKK, hD0, hKS, hKZ, hKX⟩ := hv
  have hK := hKK.1
  have hx := B.exec
  have hb := B.bytes
  have hr := B.returns
  have hts := atoms_spec (ws := wsL_addSwitch) B.pre
  have hown : s.vm.findClass RL = some m.cls := findClass_of_methodNamed B.named
  have hlocks := B.notSynchronized
  have htab : c.exceptionTable.toList = [⟨0, 12, 15, 19⟩, ⟨0, 12, 19, 21⟩, ⟨0, 12, 23, 13⟩] := (vx_table (x := yL_addSwitch) B (hts (.codeWith yL_addSwitch cL_addSwitch 6 (some .int) [(0, 12, 15, 19), (0, 12, 19, 21), (0, 12, 23, 13)]) List.mem_cons_self)).trans rfl
  subst hsz
  have hD := hD0.self (sz := s.heap.size)
  generalize hAe : va_A [(h_x, .inr (4, [.ref h_net, .ref a_now, .ref a_don, .ref a_wri, .ref a_per, .ref a_tho, .ref a_aft])), (h_net, .inr (1, [.ref h_ends, .int nc, .int sc, .int br, .int so, .int lo])), (h_ends, .inl (cI, 24, .inl ends)), (h_out, .inl (cL, 1, .inr (.inl out)))] s.heap.size = A at hD hKZ ⊢
  have hA : ∀ q : Nat, s.heap.size ≤ q → A q := fun q h => by rw [← hAe]; exact Or.inr h
  have hS : va_S A s.heap s.heap [] := va_S.rf
  have hl := lv_entry ([.ref h_x, .int p0, .int p1, .int p2, .ref h_out]) (n := 6) (Nat.le_of_ble_eq_true rfl)
  rw [lg_entry_eq]
  generalize (lg_sl ([.ref h_x, .int p0, .int p1, .int p2, .ref h_out]) ++ List.replicate (6 - (lg_sl ([.ref h_x, .int p0, .int p1, .int p2, .ref h_out])).length) Slot.unset).toArray = ls at hl ⊢
  have hl : lv_has ls 6 [(0, .ref h_x), (1, .int p0), (2, .int p1), (3, .int p2), (4, .ref h_out)] := hl
  obtain ⟨QQ, hQQ⟩ : ∃ Z, Z = MQ below (QM D (some (.int r)) A [(h_x, .inr (4, [.ref h_net, .ref a_now, .ref a_don, .ref a_wri, .ref a_per, .ref a_tho, .ref a_aft])), (h_net, .inr (1, [.ref h_ends, .int nc, .int r_1, .int r_2, .int so, .int lo])), (h_ends, .inl (cI, 24, .inl r_0)), (h_out, .inl (cL, 1, .inr (.inl r_out)))]) ([.ref h_x, .int p0, .int p1, .int p2, .ref h_out] : List Value).toArray s 3 18 A := ⟨_, rfl⟩
  rw [← hQQ]
  obtain ⟨H, locs, hHe, hLe⟩ : ∃ (H : Heap) (locs : List Loc), H = s.heap ∧ locs = [] := ⟨_, _, rfl, rfl⟩
  have hP : va_P D vwCl [(h_x, .inr (4, [.ref h_net, .ref a_now, .ref a_don, .ref a_wri, .ref a_per, .ref a_tho, .ref a_aft])), (h_net, .inr (1, [.ref h_ends, .int nc, .int sc, .int br, .int so, .int lo])), (h_ends, .inl (cI, 24, .inl ends)), (h_out, .inl (cL, 1, .inr (.inl out)))] H := by rw [hHe]; exact hP
  have hS : va_S A s.heap H locs := by rw [hHe, hLe]; exact hS
  have hW0 : ∀ QQ : State → Prop, W p l e (headSpec wsL_addSwitch rmL_addSwitch).room s m (([.ref h_x, .int p0, .int p1, .int p2, .ref h_out] : List Value).toArray) below meth c H locs 0 0 QQ (F0 m 0 ls []) → W p l e (headSpec wsL_addSwitch rmL_addSwitch).room s m (([.ref h_x, .int p0, .int p1, .int p2, .ref h_out] : List Value).toArray) below meth c s.heap [] 0 0 QQ (F0 m 0 ls []) := by rw [hHe, hLe]; exact fun _ h => h
  refine hW0 _ ?_
  clear hW0
  unfold fL_addSwitch at h
  refine lv_aload hx hb dL_addSwitch_0 (lv_at hl 4 rfl) ?_
  refine lv_iconst (v := 0) hx hb dL_addSwitch_2 (by decide) ?_
  refine lv_aload_n hx hb dL_addSwitch_3 rfl (lv_at hl 0 rfl) ?_
  refine lv_iload_n hx hb dL_addSwitch_4 rfl (lv_at hl 1 rfl) ?_
  refine lv_iload_n hx hb dL_addSwitch_5 rfl (lv_at hl 2 rfl) ?_
  refine lv_iload_n hx hb dL_addSwitch_6 rfl (lv_at hl 3 rfl) ?_
  obtain ⟨Rr, hq, hx1, hk1⟩ := bh4_r h
  refine zz_xV (As := [.int p0, .int p1, .int p2]) (wr := [(h_out, .inl (cL, 1, .inr (.inl out)))]) (w1 := fun u : (Int32) × (Nat → Int32) × (Int32) × (Int32) => [(h_x, .inr (4, [.ref h_net, .ref a_now, .ref a_don, .ref a_wri, .ref a_per, .ref a_tho, .ref a_aft])), (h_net, .inr (1, [.ref h_ends, .int nc, .int u.2.2.1, .int u.2.2.2, .int so, .int lo])), (h_ends, .inl (cI, 24, .inl u.2.1))]) (wt' := fun u : (Int32) × (Nat → Int32) × (Int32) × (Int32) => [(h_x, .inr (4, [.ref h_net, .ref a_now, .ref a_don, .ref a_wri, .ref a_per, .ref a_tho, .ref a_aft])), (h_net, .inr (1, [.ref h_ends, .int nc, .int u.2.2.1, .int u.2.2.2, .int so, .int lo])), (h_ends, .inl (cI, 24, .inl u.2.1)), (h_out, .inl (cL, 1, .inr (.inl out)))]) (wc := [(h_x, .inr (4, [.ref h_net, .ref a_now, .ref a_don, .ref a_wri, .ref a_per, .ref a_tho, .ref a_aft])), (h_net, .inr (1, [.ref h_ends, .int nc, .int sc, .int br, .int so, .int lo])), (h_ends, .inl (cI, 24, .inl ends))]) (rv := fun u => some (.int u.1)) ⟨hx, hb, hml, hown, hts⟩ (kX4_addSwitch l hl0 D cI cZ cL H.size h_x a_now a_don a_wri a_per a_tho a_aft h_net h_ends nc sc br so lo ends p0 p1 p2 N hq) (cwV 3 hts gL_addSwitch_X4_addSwitch rfl rfl rfl (by decide +kernel) ⟨Nat.le_of_ble_eq_true rfl, Nat.le_of_ble_eq_true rfl⟩) hP hD hS hA hKK hKS hKZ [0, 1, 2] [3] [1, 2, 3, 0] rfl rfl (by decide) (by decide) (fun _ => rfl) rfl (by decide) (by decide) (va_recv hK hP (ci := 4) (q0 := 0) rfl rfl) rfl hl.1 rfl (Nat.le_of_ble_eq_true rfl) dL_addSwitch_7 ⟨Nat.le_of_ble_eq_true rfl, Nat.le_of_ble_eq_true rfl⟩ (fun E ce q9 H locs hE hP hD hS h1 h2 h3 => ?_) (fun u H locs hu hP hD hS => ?_)
  · have h := hx1 E hE
    by_cases c0 : E = "java/lang/IndexOutOfBoundsException"
    · have h := it_t h c0
      subst c0
      cases h
      refine vx_catch (own := RL) (name := "java/lang/IndexOutOfBoundsException") hown [] ⟨0, 12, 15, 19⟩ [⟨0, 12, 19, 21⟩, ⟨0, 12, 23, 13⟩] htab (fun z hz => absurd hz List.not_mem_nil) (by decide) (by decide) (hts _ lkL_addSwitch_0) (va_Nw.use rfl (hKS.2 (.castable "java/lang/IndexOutOfBoundsException" "java/lang/IndexOutOfBoundsException") (by decide +kernel))) h1 h2 h3 ?_
      refine lv_astore (lv' := [(5, .ref q9), (0, .ref h_x), (1, .int p0), (2, .int p1), (3, .int p2), (4, .ref h_out)]) hx hb dL_addSwitch_15 hl (by decide) rfl (fun ls hl => ?_)
      refine lv_iconst (v := 1) hx hb dL_addSwitch_17 (by decide) ?_
      rw [hQQ]
      refine W.widen (k := 3) (n := 18) (Nat.le_of_ble_eq_true rfl) (Nat.le_of_ble_eq_true rfl) ?_
      exact W.iret hx hb hr (fun t ht hW => ⟨rfl, by rw [ht]; exact hP, hD, hS.F ht⟩) hS.2.2 dL_addSwitch_18
    have h := it_f h c0
    by_cases c1 : E = "java/lang/IllegalArgumentException"
    · have h := it_t h c1
      subst c1
      cases h
      refine vx_catch (own := RL) (name := "java/lang/IllegalArgumentException") hown [⟨0, 12, 15, 19⟩] ⟨0, 12, 19, 21⟩ [⟨0, 12, 23, 13⟩] htab (List.forall_mem_cons.mpr ⟨Or.inr ⟨by decide, ⟨"java/lang/IndexOutOfBoundsException", hts _ lkL_addSwitch_0, hKX ("java/lang/IllegalArgumentException", "java/lang/IndexOutOfBoundsException") (by decide)⟩⟩, fun z hz => absurd hz List.not_mem_nil⟩) (by decide) (by decide) (hts _ lkL_addSwitch_1) (va_Nw.use rfl (hKS.2 (.castable "java/lang/IllegalArgumentException" "java/lang/IllegalArgumentException") (by decide +kernel))) h1 h2 h3 ?_
      refine lv_astore (lv' := [(5, .ref q9), (0, .ref h_x), (1, .int p0), (2, .int p1), (3, .int p2), (4, .ref h_out)]) hx hb dL_addSwitch_19 hl (by decide) rfl (fun ls hl => ?_)
      refine lv_iconst (v := 2) hx hb dL_addSwitch_21 (by decide) ?_
      rw [hQQ]
      refine W.widen (k := 3) (n := 18) (Nat.le_of_ble_eq_true rfl) (Nat.le_of_ble_eq_true rfl) ?_
      exact W.iret hx hb hr (fun t ht hW => ⟨rfl, by rw [ht]; exact hP, hD, hS.F ht⟩) hS.2.2 dL_addSwitch_22
    have h := it_f h c1
    by_cases c2 : E = "java/lang/IllegalStateException"
    · have h := it_t h c2
      subst c2
      cases h
      refine vx_catch (own := RL) (name := "java/lang/IllegalStateException") hown [⟨0, 12, 15, 19⟩, ⟨0, 12, 19, 21⟩] ⟨0, 12, 23, 13⟩ [] htab (List.forall_mem_cons.mpr ⟨Or.inr ⟨by decide, ⟨"java/lang/IndexOutOfBoundsException", hts _ lkL_addSwitch_0, hKX ("java/lang/IllegalStateException", "java/lang/IndexOutOfBoundsException") (by decide)⟩⟩, List.forall_mem_cons.mpr ⟨Or.inr ⟨by decide, ⟨"java/lang/IllegalArgumentException", hts _ lkL_addSwitch_1, hKX ("java/lang/IllegalStateException", "java/lang/IllegalArgumentException") (by decide)⟩⟩, fun z hz => absurd hz List.not_mem_nil⟩⟩) (by decide) (by decide) (hts _ lkL_addSwitch_2) (va_Nw.use rfl (hKS.2 (.castable "java/lang/IllegalStateException" "java/lang/IllegalStateException") (by decide +kernel))) h1 h2 h3 ?_
      refine lv_astore (lv' := [(5, .ref q9), (0, .ref h_x), (1, .int p0), (2, .int p1), (3, .int p2), (4, .ref h_out)]) hx hb dL_addSwitch_23 hl (by decide) rfl (fun ls hl => ?_)
      refine lv_iconst (v := 3) hx hb dL_addSwitch_25 (by decide) ?_
      rw [hQQ]
      refine W.widen (k := 3) (n := 18) (Nat.le_of_ble_eq_true rfl) (Nat.le_of_ble_eq_true rfl) ?_
      exact W.iret hx hb hr (fun t ht hW => ⟨rfl, by rw [ht]; exact hP, hD, hS.F ht⟩) hS.2.2 dL_addSwitch_26
    have h := it_f h c2
    cases h
  · obtain ⟨v, w0, w1, w2⟩ := u
    have h := hk1 _ _ _ _ hu
    have hP : va_P D vwCl [(h_x, .inr (4, [.ref h_net, .ref a_now, .ref a_don, .ref a_wri, .ref a_per, .ref a_tho, .ref a_aft])), (h_net, .inr (1, [.ref h_ends, .int nc, .int w1, .int w2, .int so, .int lo])), (h_ends, .inl (cI, 24, .inl w0)), (h_out, .inl (cL, 1, .inr (.inl out)))] H := hP
    have hD : va_D A [(h_x, .inr (4, [.ref h_net, .ref a_now, .ref a_don, .ref a_wri, .ref a_per, .ref a_tho, .ref a_aft])), (h_net, .inr (1, [.ref h_ends, .int nc, .int w1, .int w2, .int so, .int lo])), (h_ends, .inl (cI, 24, .inl w0)), (h_out, .inl (cL, 1, .inr (.inl out)))] := hD
    show W p l e _ s m _ below meth c H locs _ _ QQ (F0 m 10 ls (.int v :: [.int 0, .ref h_out]))
    refine lv_i2l (v := v.toInt64) hx hb dL_addSwitch_10 rfl ?_
    refine va_last hx hb hK hP hD hS 3 2 rfl rfl (by unfold vp_in; decide) dL_addSwitch_11 (fun H locs hP hD hS => ?_)
    have hP : va_P D vwCl [(h_x, .inr (4, [.ref h_net, .ref a_now, .ref a_don, .ref a_wri, .ref a_per, .ref a_tho, .ref a_aft])), (h_net, .inr (1, [.ref h_ends, .int nc, .int w1, .int w2, .int so, .int lo])), (h_ends, .inl (cI, 24, .inl w0)), (h_out, .inl (cL, 1, .inr (.inl (vp_updL out (0 : Int32).toNatClampNeg v.toInt64))))] H := hP
    have hD : va_D A [(h_x, .inr (4, [.ref h_net, .ref a_now, .ref a_don, .ref a_wri, .ref a_per, .ref a_tho, .ref a_aft])), (h_net, .inr (1, [.ref h_ends, .int nc, .int w1, .int w2, .int so, .int lo])), (h_ends, .inl (cI, 24, .inl w0)), (h_out, .inl (cL, 1, .inr (.inl (vp_updL out (0 : Int32).toNatClampNeg v.toInt64))))] := hD
    refine lv_goto (tgt := 27) hx hb dL_addSwitch_12 (by decide) ?_
    refine lv_iconst (v := 0) hx hb dL_addSwitch_27 (by decide) ?_
    cases h
    rw [hQQ]
    refine W.widen (k := 3) (n := 18) (Nat.le_of_ble_eq_true rfl) (Nat.le_of_ble_eq_true rfl) ?_
    exact W.iret hx hb hr (fun t ht hW => ⟨rfl, by rw [ht]; exact hP, hD, hS.F ht⟩) hS.2.2 dL_addSwitch_28

def fL_act (N : Nat) (nc : Int32) (sc : Int32) (br : Int32) (so : Int32) (lo : Int32) (ends : Nat → Int32) (cl : Int32) (ea : Int32) (on : Int32) (ds : Int32) (dac : Nat → Int32) (pg : Int32) (hol : Nat → Int32) (ac : Int32) (ae : Int32) (ao : Int32) (out : Nat → Int64) (p0 : Int32) (p1 : Int32) : Option ((Int32) × (Int32) × (Int32) × (Int32) × (Int32) × (Nat → Int32) × (Int32) × (Int32) × (Int32) × (Nat → Int64)) :=
  bh9 (fX4_act N nc sc br so lo ends cl ea on ds dac pg hol ac ae ao p0 p1) (fun E => (if E = "java/lang/IllegalArgumentException" then some (1, cl, ea, on, ds, dac, ac, ae, ao, out) else (if E = "java/lang/IndexOutOfBoundsException" then some (2, cl, ea, on, ds, dac, ac, ae, ao, out) else (if E = "java/lang/IllegalStateException" then some (3, cl, ea, on, ds, dac, ac, ae, ao, out) else none)))) (fun v w0 w1 w2 w3 w4 w5 w6 w7 => some (0, w0, w1, w2, w3, w4, w5, w6, w7, vp_updL out (0 : Int32).toNatClampNeg v.toInt64))
set_option maxRecDepth 100000 in
theorem lkL_act_0 : (.classLink RL 21 "java/lang/IllegalArgumentException" : Cond) ∈ wsL_act := by decide +kernel
set_option maxRecDepth 100000 in
theorem lkL_act_1 : (.classLink RL 19 "java/lang/IndexOutOfBoundsException" : Cond) ∈ wsL_act := by decide +kernel
set_option maxRecDepth 100000 in
theorem lkL_act_2 : (.classLink RL 13 "java/lang/IllegalStateException" : Cond) ∈ wsL_act := by decide +kernel
abbrev rmL_act : Room := { frames := 8, cells := 2, slots := 12, locals := 163 }
set_option maxHeartbeats 4000000 in
set_option maxRecDepth 100000 in
theorem kL_act (l : Launch) (hl0 : l.stackTraces = false) (D : va_G) (cI cZ cL : ClassId) (sz0 : Nat) (h_x a_wri a_tho h_net h_ends h_now h_don h_dac h_per h_hol h_aft h_out : Nat) (nc : Int32) (sc : Int32) (br : Int32) (so : Int32) (lo : Int32) (ends : Nat → Int32) (cl : Int32) (ea : Int32) (on : Int32) (ds : Int32) (dac : Nat → Int32) (pg : Int32) (hol : Nat → Int32) (ac : Int32) (ae : Int32) (ao : Int32) (out : Nat → Int64) (p0 : Int32) (p1 : Int32) (N : Nat) {r : Int32} {r_0 : Int32} {r_1 : Int32} {r_2 : Int32} {r_3 : Int32} {r_4 : Nat → Int32} {r_5 : Int32} {r_6 : Int32} {r_7 : Int32} {r_out : Nat → Int64} (h : fL_act N nc sc br so lo ends cl ea on ds dac pg hol ac ae ao out p0 p1 = some (r, r_0, r_1, r_2, r_3, r_4, r_5, r_6, r_7, r_out)) : Met l yL_act wsL_act rmL_act (PH D cI cZ cL [.ref h_x, .int p0, .int p1, .ref h_out] [(h_x, .inr (4, [.ref h_net, .ref h_now, .ref h_don, .ref a_wri, .ref h_per, .ref a_tho, .ref h_aft])), (h_net, .inr (1, [.ref h_ends, .int nc, .int sc, .int br, .int so, .int lo])), (h_ends, .inl (cI, 24, .inl ends)), (h_now, .inr (3, [.int cl, .int ea, .int on])), (h_don, .inr (0, [.ref h_dac, .int ds])), (h_dac, .inl (cI, 200, .inl dac)), (h_per, .inr (2, [.ref h_hol, .int pg])), (h_hol, .inl (cI, 10, .inl hol)), (h_aft, .inr (3, [.int ac, .int ae, .int ao])), (h_out, .inl (cL, 1, .inr (.inl out)))] sz0) (QM D (some (.int r)) (va_A [(h_x, .inr (4, [.ref h_net, .ref h_now, .ref h_don, .ref a_wri, .ref h_per, .ref a_tho, .ref h_aft])), (h_net, .inr (1, [.ref h_ends, .int nc, .int sc, .int br, .int so, .int lo])), (h_ends, .inl (cI, 24, .inl ends)), (h_now, .inr (3, [.int cl, .int ea, .int on])), (h_don, .inr (0, [.ref h_dac, .int ds])), (h_dac, .inl (cI, 200, .inl dac)), (h_per, .inr (2, [.ref h_hol, .int pg])), (h_hol, .inl (cI, 10, .inl hol)), (h_aft, .inr (3, [.int ac, .int ae, .int ao])), (h_out, .inl (cL, 1, .inr (.inl out)))] sz0) [(h_x, .inr (4, [.ref h_net, .ref h_now, .ref h_don, .ref a_wri, .ref h_per, .ref a_tho, .ref h_aft])), (h_net, .inr (1, [.ref h_ends, .int nc, .int sc, .int br, .int so, .int lo])), (h_ends, .inl (cI, 24, .inl ends)), (h_now, .inr (3, [.int r_0, .int r_1, .int r_2])), (h_don, .inr (0, [.ref h_dac, .int r_3])), (h_dac, .inl (cI, 200, .inl r_4)), (h_per, .inr (2, [.ref h_hol, .int pg])), (h_hol, .inl (cI, 10, .inl hol)), (h_aft, .inr (3, [.int r_5, .int r_6, .int r_7])), (h_out, .inl (cL, 1, .inr (.inl r_out)))]) 2 12 (va_A [(h_x, .inr (4, [.ref h_net, .ref h_now, .ref h_don, .ref a_wri, .ref h_per, .ref a_tho, .ref h_aft])), (h_net, .inr (1, [.ref h_ends, .int nc, .int sc, .int br, .int so, .int lo])), (h_ends, .inl (cI, 24, .inl ends)), (h_now, .inr (3, [.int cl, .int ea, .int on])), (h_don, .inr (0, [.ref h_dac, .int ds])), (h_dac, .inl (cI, 200, .inl dac)), (h_per, .inr (2, [.ref h_hol, .int pg])), (h_hol, .inl (cI, 10, .inl hol)), (h_aft, .inr (3, [.int ac, .int ae, .int ao])), (h_out, .inl (cL, 1, .inr (.inl out)))] sz0) := by
  refine zz_ofWH (cc := cL_act) (maxL := 5) (ret := (some .int)) (hh := [(0, 10, 13, 21), (0, 10, 17, 19), (0, 10, 21, 13)]) (by decide) rfl ?_
  intro p e s m args below meth c s₁ B hml hv
  obtain ⟨rfl, hsz, hP, hKK, hD0, hKS, hKZ, hKX⟩ := hv
  have hK := hKK.1
  have hx := B.exec
  have hb := B.bytes
  have hr := B.returns
  have hts := atoms_spec (ws := wsL_act) B.pre
  have hown : s.vm.findClass RL = some m.cls := findClass_of_methodNamed B.named
  have hlocks := B.notSynchronized
  have htab : c.exceptionTable.toList = [⟨0, 10, 13, 21⟩, ⟨0, 10, 17, 19⟩, ⟨0, 10, 21, 13⟩] := (vx_table (x := yL_act) B (hts (.codeWith yL_act cL_act 5 (some .int) [(0, 10, 13, 21), (0, 10, 17, 19), (0, 10, 21, 13)]) List.mem_cons_self)).trans rfl
  subst hsz
  have hD := hD0.self (sz := s.heap.size)
  generalize hAe : va_A [(h_x, .inr (4, [.ref h_net, .ref h_now, .ref h_don, .ref a_wri, .ref h_per, .ref a_tho, .ref h_aft])), (h_net, .inr (1, [.ref h_ends, .int nc, .int sc, .int br, .int so, .int lo])), (h_ends, .inl (cI, 24, .inl ends)), (h_now, .inr (3, [.int cl, .int ea, .int on])), (h_don, .inr (0, [.ref h_dac, .int ds])), (h_dac, .inl (cI, 200, .inl dac)), (h_per, .inr (2, [.ref h_hol, .int pg])), (h_hol, .inl (cI, 10, .inl hol)), (h_aft, .inr (3, [.int ac, .int ae, .int ao])), (h_out, .inl (cL, 1, .inr (.inl out)))] s.heap.size = A at hD hKZ ⊢
  have hA : ∀ q : Nat, s.heap.size ≤ q → A q := fun q h => by rw [← hAe]; exact Or.inr h
  have hS : va_S A s.heap s.heap [] := va_S.rf
  have hl := lv_entry ([.ref h_x, .int p0, .int p1, .ref h_out]) (n := 5) (Nat.le_of_ble_eq_true rfl)
  rw [lg_entry_eq]
  generalize (lg_sl ([.ref h_x, .int p0, .int p1, .ref h_out]) ++ List.replicate (5 - (lg_sl ([.ref h_x, .int p0, .int p1, .ref h_out])).length) Slot.unset).toArray = ls at hl ⊢
  have hl : lv_has ls 5 [(0, .ref h_x), (1, .int p0), (2, .int p1), (3, .ref h_out)] := hl
  obtain ⟨QQ, hQQ⟩ : ∃ Z, Z = MQ below (QM D (some (.int r)) A [(h_x, .inr (4, [.ref h_net, .ref h_now, .ref h_don, .ref a_wri, .ref h_per, .ref a_tho, .ref h_aft])), (h_net, .inr (1, [.ref h_ends, .int nc, .int sc, .int br, .int so, .int lo])), (h_ends, .inl (cI, 24, .inl ends)), (h_now, .inr (3, [.int r_0, .int r_1, .int r_2])), (h_don, .inr (0, [.ref h_dac, .int r_3])), (h_dac, .inl (cI, 200, .inl r_4)), (h_per, .inr (2, [.ref h_hol, .int pg])), (h_hol, .inl (cI, 10, .inl hol)), (h_aft, .inr (3, [.int r_5, .int r_6, .int r_7])), (h_out, .inl (cL, 1, .inr (.inl r_out)))]) ([.ref h_x, .int p0, .int p1, .ref h_out] : List Value).toArray s 2 12 A := ⟨_, rfl⟩
  rw [← hQQ]
  obtain ⟨H, locs, hHe, hLe⟩ : ∃ (H : Heap) (locs : List Loc), H = s.heap ∧ locs = [] := ⟨_, _, rfl, rfl⟩
  have hP : va_P D vwCl [(h_x, .inr (4, [.ref h_net, .ref h_now, .ref h_don, .ref a_wri, .ref h_per, .ref a_tho, .ref h_aft])), (h_net, .inr (1, [.ref h_ends, .int nc, .int sc, .int br, .int so, .int lo])), (h_ends, .inl (cI, 24, .inl ends)), (h_now, .inr (3, [.int cl, .int ea, .int on])), (h_don, .inr (0, [.ref h_dac, .int ds])), (h_dac, .inl (cI, 200, .inl dac)), (h_per, .inr (2, [.ref h_hol, .int pg])), (h_hol, .inl (cI, 10, .inl hol)), (h_aft, .inr (3, [.int ac, .int ae, .int ao])), (h_out, .inl (cL, 1, .inr (.inl out)))] H := by rw [hHe]; exact hP
  have hS : va_S A s.heap H locs := by rw [hHe, hLe]; exact hS
  have hW0 : ∀ QQ : State → Prop, W p l e (headSpec wsL_act rmL_act).room s m (([.ref h_x, .int p0, .int p1, .ref h_out] : List Value).toArray) below meth c H locs 0 0 QQ (F0 m 0 ls []) → W p l e (headSpec wsL_act rmL_act).room s m (([.ref h_x, .int p0, .int p1, .ref h_out] : List Value).toArray) below meth c s.heap [] 0 0 QQ (F0 m 0 ls []) := by rw [hHe, hLe]; exact fun _ h => h
  refine hW0 _ ?_
  clear hW0
  unfold fL_act at h
  refine lv_aload_n hx hb dL_act_0 rfl (lv_at hl 3 rfl) ?_
  refine lv_iconst (v := 0) hx hb dL_act_1 (by decide) ?_
  refine lv_aload_n hx hb dL_act_2 rfl (lv_at hl 0 rfl) ?_
  refine lv_iload_n hx hb dL_act_3 rfl (lv_at hl 1 rfl) ?_
  refine lv_iload_n hx hb dL_act_4 rfl (lv_at hl 2 rfl) ?_
  obtain ⟨Rr, hq, hx1, hk1⟩ := bh9_r h
  refine zz_xV (As := [.int p0, .int p1]) (wr := [(h_out, .inl (cL, 1, .inr (.inl out)))]) (w1 := fun u : (Int32) × (Int32) × (Int32) × (Int32) × (Int32) × (Nat → Int32) × (Int32) × (Int32) × (Int32) => [(h_x, .inr (4, [.ref h_net, .ref h_now, .ref h_don, .ref a_wri, .ref h_per, .ref a_tho, .ref h_aft])), (h_net, .inr (1, [.ref h_ends, .int nc, .int sc, .int br, .int so, .int lo])), (h_ends, .inl (cI, 24, .inl ends)), (h_now, .inr (3, [.int u.2.1, .int u.2.2.1, .int u.2.2.2.1])), (h_don, .inr (0, [.ref h_dac, .int u.2.2.2.2.1])), (h_dac, .inl (cI, 200, .inl u.2.2.2.2.2.1)), (h_per, .inr (2, [.ref h_hol, .int pg])), (h_hol, .inl (cI, 10, .inl hol)), (h_aft, .inr (3, [.int u.2.2.2.2.2.2.1, .int u.2.2.2.2.2.2.2.1, .int u.2.2.2.2.2.2.2.2]))]) (wt' := fun u : (Int32) × (Int32) × (Int32) × (Int32) × (Int32) × (Nat → Int32) × (Int32) × (Int32) × (Int32) => [(h_x, .inr (4, [.ref h_net, .ref h_now, .ref h_don, .ref a_wri, .ref h_per, .ref a_tho, .ref h_aft])), (h_net, .inr (1, [.ref h_ends, .int nc, .int sc, .int br, .int so, .int lo])), (h_ends, .inl (cI, 24, .inl ends)), (h_now, .inr (3, [.int u.2.1, .int u.2.2.1, .int u.2.2.2.1])), (h_don, .inr (0, [.ref h_dac, .int u.2.2.2.2.1])), (h_dac, .inl (cI, 200, .inl u.2.2.2.2.2.1)), (h_per, .inr (2, [.ref h_hol, .int pg])), (h_hol, .inl (cI, 10, .inl hol)), (h_aft, .inr (3, [.int u.2.2.2.2.2.2.1, .int u.2.2.2.2.2.2.2.1, .int u.2.2.2.2.2.2.2.2])), (h_out, .inl (cL, 1, .inr (.inl out)))]) (wc := [(h_x, .inr (4, [.ref h_net, .ref h_now, .ref h_don, .ref a_wri, .ref h_per, .ref a_tho, .ref h_aft])), (h_net, .inr (1, [.ref h_ends, .int nc, .int sc, .int br, .int so, .int lo])), (h_ends, .inl (cI, 24, .inl ends)), (h_now, .inr (3, [.int cl, .int ea, .int on])), (h_don, .inr (0, [.ref h_dac, .int ds])), (h_dac, .inl (cI, 200, .inl dac)), (h_per, .inr (2, [.ref h_hol, .int pg])), (h_hol, .inl (cI, 10, .inl hol)), (h_aft, .inr (3, [.int ac, .int ae, .int ao]))]) (rv := fun u => some (.int u.1)) ⟨hx, hb, hml, hown, hts⟩ (kX4_act l hl0 D cI cZ cL H.size h_x a_wri a_tho h_net h_ends h_now h_don h_dac h_per h_hol h_aft nc sc br so lo ends cl ea on ds dac pg hol ac ae ao p0 p1 N hq) (cwV 2 hts gL_act_X4_act rfl rfl rfl (by decide +kernel) ⟨Nat.le_of_ble_eq_true rfl, Nat.le_of_ble_eq_true rfl⟩) hP hD hS hA hKK hKS hKZ [0, 1, 2, 3, 4, 5, 6, 7, 8] [9] [1, 2, 3, 4, 5, 6, 7, 8, 9, 0] rfl rfl (by decide) (by decide) (fun _ => rfl) rfl (by decide) (by decide) (va_recv hK hP (ci := 4) (q0 := 0) rfl rfl) rfl hl.1 rfl (Nat.le_of_ble_eq_true rfl) dL_act_5 ⟨Nat.le_of_ble_eq_true rfl, Nat.le_of_ble_eq_true rfl⟩ (fun E ce q9 H locs hE hP hD hS h1 h2 h3 => ?_) (fun u H locs hu hP hD hS => ?_)
  · have h := hx1 E hE
    by_cases c0 : E = "java/lang/IllegalArgumentException"
    · have h := it_t h c0
      subst c0
      cases h
      refine vx_catch (own := RL) (name := "java/lang/IllegalArgumentException") hown [] ⟨0, 10, 13, 21⟩ [⟨0, 10, 17, 19⟩, ⟨0, 10, 21, 13⟩] htab (fun z hz => absurd hz List.not_mem_nil) (by decide) (by decide) (hts _ lkL_act_0) (va_Nw.use rfl (hKS.2 (.castable "java/lang/IllegalArgumentException" "java/lang/IllegalArgumentException") (by decide +kernel))) h1 h2 h3 ?_
      refine lv_astore (lv' := [(4, .ref q9), (0, .ref h_x), (1, .int p0), (2, .int p1), (3, .ref h_out)]) hx hb dL_act_13 hl (by decide) rfl (fun ls hl => ?_)
      refine lv_iconst (v := 1) hx hb dL_act_15 (by decide) ?_
      rw [hQQ]
      refine W.widen (k := 2) (n := 12) (Nat.le_of_ble_eq_true rfl) (Nat.le_of_ble_eq_true rfl) ?_
      exact W.iret hx hb hr (fun t ht hW => ⟨rfl, by rw [ht]; exact hP, hD, hS.F ht⟩) hS.2.2 dL_act_16
    have h := it_f h c0
    by_cases c1 : E = "java/lang/IndexOutOfBoundsException"
    · have h := it_t h c1
      subst c1
      cases h
      refine vx_catch (own := RL) (name := "java/lang/IndexOutOfBoundsException") hown [⟨0, 10, 13, 21⟩] ⟨0, 10, 17, 19⟩ [⟨0, 10, 21, 13⟩] htab (List.forall_mem_cons.mpr ⟨Or.inr ⟨by decide, ⟨"java/lang/IllegalArgumentException", hts _ lkL_act_0, hKX ("java/lang/IndexOutOfBoundsException", "java/lang/IllegalArgumentException") (by decide)⟩⟩, fun z hz => absurd hz List.not_mem_nil⟩) (by decide) (by decide) (hts _ lkL_act_1) (va_Nw.use rfl (hKS.2 (.castable "java/lang/IndexOutOfBoundsException" "java/lang/IndexOutOfBoundsException") (by decide +kernel))) h1 h2 h3 ?_
      refine lv_astore (lv' := [(4, .ref q9), (0, .ref h_x), (1, .int p0), (2, .int p1), (3, .ref h_out)]) hx hb dL_act_17 hl (by decide) rfl (fun ls hl => ?_)
      refine lv_iconst (v := 2) hx hb dL_act_19 (by decide) ?_
      rw [hQQ]
      refine W.widen (k := 2) (n := 12) (Nat.le_of_ble_eq_true rfl) (Nat.le_of_ble_eq_true rfl) ?_
      exact W.iret hx hb hr (fun t ht hW => ⟨rfl, by rw [ht]; exact hP, hD, hS.F ht⟩) hS.2.2 dL_act_20
    have h := it_f h c1
    by_cases c2 : E = "java/lang/IllegalStateException"
    · have h := it_t h c2
      subst c2
      cases h
      refine vx_catch (own := RL) (name := "java/lang/IllegalStateException") hown [⟨0, 10, 13, 21⟩, ⟨0, 10, 17, 19⟩] ⟨0, 10, 21, 13⟩ [] htab (List.forall_mem_cons.mpr ⟨Or.inr ⟨by decide, ⟨"java/lang/IllegalArgumentException", hts _ lkL_act_0, hKX ("java/lang/IllegalStateException", "java/lang/IllegalArgumentException") (by decide)⟩⟩, List.forall_mem_cons.mpr ⟨Or.inr ⟨by decide, ⟨"java/lang/IndexOutOfBoundsException", hts _ lkL_act_1, hKX ("java/lang/IllegalStateException", "java/lang/IndexOutOfBoundsException") (by decide)⟩⟩, fun z hz => absurd hz List.not_mem_nil⟩⟩) (by decide) (by decide) (hts _ lkL_act_2) (va_Nw.use rfl (hKS.2 (.castable "java/lang/IllegalStateException" "java/lang/IllegalStateException") (by decide +kernel))) h1 h2 h3 ?_
      refine lv_astore (lv' := [(4, .ref q9), (0, .ref h_x), (1, .int p0), (2, .int p1), (3, .ref h_out)]) hx hb dL_act_21 hl (by decide) rfl (fun ls hl => ?_)
      refine lv_iconst (v := 3) hx hb dL_act_23 (by decide) ?_
      rw [hQQ]
      refine W.widen (k := 2) (n := 12) (Nat.le_of_ble_eq_true rfl) (Nat.le_of_ble_eq_true rfl) ?_
      exact W.iret hx hb hr (fun t ht hW => ⟨rfl, by rw [ht]; exact hP, hD, hS.F ht⟩) hS.2.2 dL_act_24
    have h := it_f h c2
    cases h
  · obtain ⟨v, w0, w1, w2, w3, w4, w5, w6, w7⟩ := u
    have h := hk1 _ _ _ _ _ _ _ _ _ hu
    have hP : va_P D vwCl [(h_x, .inr (4, [.ref h_net, .ref h_now, .ref h_don, .ref a_wri, .ref h_per, .ref a_tho, .ref h_aft])), (h_net, .inr (1, [.ref h_ends, .int nc, .int sc, .int br, .int so, .int lo])), (h_ends, .inl (cI, 24, .inl ends)), (h_now, .inr (3, [.int w0, .int w1, .int w2])), (h_don, .inr (0, [.ref h_dac, .int w3])), (h_dac, .inl (cI, 200, .inl w4)), (h_per, .inr (2, [.ref h_hol, .int pg])), (h_hol, .inl (cI, 10, .inl hol)), (h_aft, .inr (3, [.int w5, .int w6, .int w7])), (h_out, .inl (cL, 1, .inr (.inl out)))] H := hP
    have hD : va_D A [(h_x, .inr (4, [.ref h_net, .ref h_now, .ref h_don, .ref a_wri, .ref h_per, .ref a_tho, .ref h_aft])), (h_net, .inr (1, [.ref h_ends, .int nc, .int sc, .int br, .int so, .int lo])), (h_ends, .inl (cI, 24, .inl ends)), (h_now, .inr (3, [.int w0, .int w1, .int w2])), (h_don, .inr (0, [.ref h_dac, .int w3])), (h_dac, .inl (cI, 200, .inl w4)), (h_per, .inr (2, [.ref h_hol, .int pg])), (h_hol, .inl (cI, 10, .inl hol)), (h_aft, .inr (3, [.int w5, .int w6, .int w7])), (h_out, .inl (cL, 1, .inr (.inl out)))] := hD
    show W p l e _ s m _ below meth c H locs _ _ QQ (F0 m 8 ls (.int v :: [.int 0, .ref h_out]))
    refine lv_i2l (v := v.toInt64) hx hb dL_act_8 rfl ?_
    refine va_last hx hb hK hP hD hS 9 2 rfl rfl (by unfold vp_in; decide) dL_act_9 (fun H locs hP hD hS => ?_)
    have hP : va_P D vwCl [(h_x, .inr (4, [.ref h_net, .ref h_now, .ref h_don, .ref a_wri, .ref h_per, .ref a_tho, .ref h_aft])), (h_net, .inr (1, [.ref h_ends, .int nc, .int sc, .int br, .int so, .int lo])), (h_ends, .inl (cI, 24, .inl ends)), (h_now, .inr (3, [.int w0, .int w1, .int w2])), (h_don, .inr (0, [.ref h_dac, .int w3])), (h_dac, .inl (cI, 200, .inl w4)), (h_per, .inr (2, [.ref h_hol, .int pg])), (h_hol, .inl (cI, 10, .inl hol)), (h_aft, .inr (3, [.int w5, .int w6, .int w7])), (h_out, .inl (cL, 1, .inr (.inl (vp_updL out (0 : Int32).toNatClampNeg v.toInt64))))] H := hP
    have hD : va_D A [(h_x, .inr (4, [.ref h_net, .ref h_now, .ref h_don, .ref a_wri, .ref h_per, .ref a_tho, .ref h_aft])), (h_net, .inr (1, [.ref h_ends, .int nc, .int sc, .int br, .int so, .int lo])), (h_ends, .inl (cI, 24, .inl ends)), (h_now, .inr (3, [.int w0, .int w1, .int w2])), (h_don, .inr (0, [.ref h_dac, .int w3])), (h_dac, .inl (cI, 200, .inl w4)), (h_per, .inr (2, [.ref h_hol, .int pg])), (h_hol, .inl (cI, 10, .inl hol)), (h_aft, .inr (3, [.int w5, .int w6, .int w7])), (h_out, .inl (cL, 1, .inr (.inl (vp_updL out (0 : Int32).toNatClampNeg v.toInt64))))] := hD
    refine lv_goto (tgt := 25) hx hb dL_act_10 (by decide) ?_
    refine lv_iconst (v := 0) hx hb dL_act_25 (by decide) ?_
    cases h
    rw [hQQ]
    refine W.widen (k := 2) (n := 12) (Nat.le_of_ble_eq_true rfl) (Nat.le_of_ble_eq_true rfl) ?_
    exact W.iret hx hb hr (fun t ht hW => ⟨rfl, by rw [ht]; exact hP, hD, hS.F ht⟩) hS.2.2 dL_act_26

def fL_reason (N : Nat) (nc : Int32) (sc : Int32) (br : Int32) (so : Int32) (lo : Int32) (ends : Nat → Int32) (cl : Int32) (ea : Int32) (on : Int32) (pg : Int32) (hol : Nat → Int32) (ac : Int32) (ae : Int32) (ao : Int32) (out : Nat → Int64) (p0 : Int32) (p1 : Int32) : Option ((Int32) × (Int32) × (Int32) × (Int32) × (Nat → Int64)) :=
  bh4 (fX4_reason N nc sc br so lo ends cl ea on pg hol ac ae ao p0 p1) (fun E => (if E = "java/lang/IllegalArgumentException" then some (1, ac, ae, ao, out) else (if E = "java/lang/IndexOutOfBoundsException" then some (2, ac, ae, ao, out) else none))) (fun v w0 w1 w2 => some (0, w0, w1, w2, vp_updL out (0 : Int32).toNatClampNeg v.toInt64))
set_option maxRecDepth 100000 in
theorem lkL_reason_0 : (.classLink RL 21 "java/lang/IllegalArgumentException" : Cond) ∈ wsL_reason := by decide +kernel
set_option maxRecDepth 100000 in
theorem lkL_reason_1 : (.classLink RL 19 "java/lang/IndexOutOfBoundsException" : Cond) ∈ wsL_reason := by decide +kernel
abbrev rmL_reason : Room := { frames := 8, cells := 1, slots := 6, locals := 141 }
set_option maxHeartbeats 4000000 in
set_option maxRecDepth 100000 in
theorem kL_reason (l : Launch) (hl0 : l.stackTraces = false) (D : va_G) (cI cZ cL : ClassId) (sz0 : Nat) (h_x a_don a_wri a_tho h_net h_ends h_now h_per h_hol h_aft h_out : Nat) (nc : Int32) (sc : Int32) (br : Int32) (so : Int32) (lo : Int32) (ends : Nat → Int32) (cl : Int32) (ea : Int32) (on : Int32) (pg : Int32) (hol : Nat → Int32) (ac : Int32) (ae : Int32) (ao : Int32) (out : Nat → Int64) (p0 : Int32) (p1 : Int32) (N : Nat) {r : Int32} {r_0 : Int32} {r_1 : Int32} {r_2 : Int32} {r_out : Nat → Int64} (h : fL_reason N nc sc br so lo ends cl ea on pg hol ac ae ao out p0 p1 = some (r, r_0, r_1, r_2, r_out)) : Met l yL_reason wsL_reason rmL_reason (PH D cI cZ cL [.ref h_x, .int p0, .int p1, .ref h_out] [(h_x, .inr (4, [.ref h_net, .ref h_now, .ref a_don, .ref a_wri, .ref h_per, .ref a_tho, .ref h_aft])), (h_net, .inr (1, [.ref h_ends, .int nc, .int sc, .int br, .int so, .int lo])), (h_ends, .inl (cI, 24, .inl ends)), (h_now, .inr (3, [.int cl, .int ea, .int on])), (h_per, .inr (2, [.ref h_hol, .int pg])), (h_hol, .inl (cI, 10, .inl hol)), (h_aft, .inr (3, [.int ac, .int ae, .int ao])), (h_out, .inl (cL, 1, .inr (.inl out)))] sz0) (QM D (some (.int r)) (va_A [(h_x, .inr (4, [.ref h_net, .ref h_now, .ref a_don, .ref a_wri, .ref h_per, .ref a_tho, .ref h_aft])), (h_net, .inr (1, [.ref h_ends, .int nc, .int sc, .int br, .int so, .int lo])), (h_ends, .inl (cI, 24, .inl ends)), (h_now, .inr (3, [.int cl, .int ea, .int on])), (h_per, .inr (2, [.ref h_hol, .int pg])), (h_hol, .inl (cI, 10, .inl hol)), (h_aft, .inr (3, [.int ac, .int ae, .int ao])), (h_out, .inl (cL, 1, .inr (.inl out)))] sz0) [(h_x, .inr (4, [.ref h_net, .ref h_now, .ref a_don, .ref a_wri, .ref h_per, .ref a_tho, .ref h_aft])), (h_net, .inr (1, [.ref h_ends, .int nc, .int sc, .int br, .int so, .int lo])), (h_ends, .inl (cI, 24, .inl ends)), (h_now, .inr (3, [.int cl, .int ea, .int on])), (h_per, .inr (2, [.ref h_hol, .int pg])), (h_hol, .inl (cI, 10, .inl hol)), (h_aft, .inr (3, [.int r_0, .int r_1, .int r_2])), (h_out, .inl (cL, 1, .inr (.inl r_out)))]) 1 6 (va_A [(h_x, .inr (4, [.ref h_net, .ref h_now, .ref a_don, .ref a_wri, .ref h_per, .ref a_tho, .ref h_aft])), (h_net, .inr (1, [.ref h_ends, .int nc, .int sc, .int br, .int so, .int lo])), (h_ends, .inl (cI, 24, .inl ends)), (h_now, .inr (3, [.int cl, .int ea, .int on])), (h_per, .inr (2, [.ref h_hol, .int pg])), (h_hol, .inl (cI, 10, .inl hol)), (h_aft, .inr (3, [.int ac, .int ae, .int ao])), (h_out, .inl (cL, 1, .inr (.inl out)))] sz0) := by
  refine zz_ofWH (cc := cL_reason) (maxL := 5) (ret := (some .int)) (hh := [(0, 10, 13, 21), (0, 10, 17, 19)]) (by decide) rfl ?_
  intro p e s m args below meth c s₁ B hml hv
  obtain ⟨rfl, hsz, hP, hKK, hD0, hKS, hKZ, hKX⟩ := hv
  have hK := hKK.1
  have hx := B.exec
  have hb := B.bytes
  have hr := B.returns
  have hts := atoms_spec (ws := wsL_reason) B.pre
  have hown : s.vm.findClass RL = some m.cls := findClass_of_methodNamed B.named
  have hlocks := B.notSynchronized
  have htab : c.exceptionTable.toList = [⟨0, 10, 13, 21⟩, ⟨0, 10, 17, 19⟩] := (vx_table (x := yL_reason) B (hts (.codeWith yL_reason cL_reason 5 (some .int) [(0, 10, 13, 21), (0, 10, 17, 19)]) List.mem_cons_self)).trans rfl
  subst hsz
  have hD := hD0.self (sz := s.heap.size)
  generalize hAe : va_A [(h_x, .inr (4, [.ref h_net, .ref h_now, .ref a_don, .ref a_wri, .ref h_per, .ref a_tho, .ref h_aft])), (h_net, .inr (1, [.ref h_ends, .int nc, .int sc, .int br, .int so, .int lo])), (h_ends, .inl (cI, 24, .inl ends)), (h_now, .inr (3, [.int cl, .int ea, .int on])), (h_per, .inr (2, [.ref h_hol, .int pg])), (h_hol, .inl (cI, 10, .inl hol)), (h_aft, .inr (3, [.int ac, .int ae, .int ao])), (h_out, .inl (cL, 1, .inr (.inl out)))] s.heap.size = A at hD hKZ ⊢
  have hA : ∀ q : Nat, s.heap.size ≤ q → A q := fun q h => by rw [← hAe]; exact Or.inr h
  have hS : va_S A s.heap s.heap [] := va_S.rf
  have hl := lv_entry ([.ref h_x, .int p0, .int p1, .ref h_out]) (n := 5) (Nat.le_of_ble_eq_true rfl)
  rw [lg_entry_eq]
  generalize (lg_sl ([.ref h_x, .int p0, .int p1, .ref h_out]) ++ List.replicate (5 - (lg_sl ([.ref h_x, .int p0, .int p1, .ref h_out])).length) Slot.unset).toArray = ls at hl ⊢
  have hl : lv_has ls 5 [(0, .ref h_x), (1, .int p0), (2, .int p1), (3, .ref h_out)] := hl
  obtain ⟨QQ, hQQ⟩ : ∃ Z, Z = MQ below (QM D (some (.int r)) A [(h_x, .inr (4, [.ref h_net, .ref h_now, .ref a_don, .ref a_wri, .ref h_per, .ref a_tho, .ref h_aft])), (h_net, .inr (1, [.ref h_ends, .int nc, .int sc, .int br, .int so, .int lo])), (h_ends, .inl (cI, 24, .inl ends)), (h_now, .inr (3, [.int cl, .int ea, .int on])), (h_per, .inr (2, [.ref h_hol, .int pg])), (h_hol, .inl (cI, 10, .inl hol)), (h_aft, .inr (3, [.int r_0, .int r_1, .int r_2])), (h_out, .inl (cL, 1, .inr (.inl r_out)))]) ([.ref h_x, .int p0, .int p1, .ref h_out] : List Value).toArray s 1 6 A := ⟨_, rfl⟩
  rw [← hQQ]
  obtain ⟨H, locs, hHe, hLe⟩ : ∃ (H : Heap) (locs : List Loc), H = s.heap ∧ locs = [] := ⟨_, _, rfl, rfl⟩
  have hP : va_P D vwCl [(h_x, .inr (4, [.ref h_net, .ref h_now, .ref a_don, .ref a_wri, .ref h_per, .ref a_tho, .ref h_aft])), (h_net, .inr (1, [.ref h_ends, .int nc, .int sc, .int br, .int so, .int lo])), (h_ends, .inl (cI, 24, .inl ends)), (h_now, .inr (3, [.int cl, .int ea, .int on])), (h_per, .inr (2, [.ref h_hol, .int pg])), (h_hol, .inl (cI, 10, .inl hol)), (h_aft, .inr (3, [.int ac, .int ae, .int ao])), (h_out, .inl (cL, 1, .inr (.inl out)))] H := by rw [hHe]; exact hP
  have hS : va_S A s.heap H locs := by rw [hHe, hLe]; exact hS
  have hW0 : ∀ QQ : State → Prop, W p l e (headSpec wsL_reason rmL_reason).room s m (([.ref h_x, .int p0, .int p1, .ref h_out] : List Value).toArray) below meth c H locs 0 0 QQ (F0 m 0 ls []) → W p l e (headSpec wsL_reason rmL_reason).room s m (([.ref h_x, .int p0, .int p1, .ref h_out] : List Value).toArray) below meth c s.heap [] 0 0 QQ (F0 m 0 ls []) := by rw [hHe, hLe]; exact fun _ h => h
  refine hW0 _ ?_
  clear hW0
  unfold fL_reason at h
  refine lv_aload_n hx hb dL_reason_0 rfl (lv_at hl 3 rfl) ?_
  refine lv_iconst (v := 0) hx hb dL_reason_1 (by decide) ?_
  refine lv_aload_n hx hb dL_reason_2 rfl (lv_at hl 0 rfl) ?_
  refine lv_iload_n hx hb dL_reason_3 rfl (lv_at hl 1 rfl) ?_
  refine lv_iload_n hx hb dL_reason_4 rfl (lv_at hl 2 rfl) ?_
  obtain ⟨Rr, hq, hx1, hk1⟩ := bh4_r h
  refine zz_xV (As := [.int p0, .int p1]) (wr := [(h_out, .inl (cL, 1, .inr (.inl out)))]) (w1 := fun u : (Int32) × (Int32) × (Int32) × (Int32) => [(h_x, .inr (4, [.ref h_net, .ref h_now, .ref a_don, .ref a_wri, .ref h_per, .ref a_tho, .ref h_aft])), (h_net, .inr (1, [.ref h_ends, .int nc, .int sc, .int br, .int so, .int lo])), (h_ends, .inl (cI, 24, .inl ends)), (h_now, .inr (3, [.int cl, .int ea, .int on])), (h_per, .inr (2, [.ref h_hol, .int pg])), (h_hol, .inl (cI, 10, .inl hol)), (h_aft, .inr (3, [.int u.2.1, .int u.2.2.1, .int u.2.2.2]))]) (wt' := fun u : (Int32) × (Int32) × (Int32) × (Int32) => [(h_x, .inr (4, [.ref h_net, .ref h_now, .ref a_don, .ref a_wri, .ref h_per, .ref a_tho, .ref h_aft])), (h_net, .inr (1, [.ref h_ends, .int nc, .int sc, .int br, .int so, .int lo])), (h_ends, .inl (cI, 24, .inl ends)), (h_now, .inr (3, [.int cl, .int ea, .int on])), (h_per, .inr (2, [.ref h_hol, .int pg])), (h_hol, .inl (cI, 10, .inl hol)), (h_aft, .inr (3, [.int u.2.1, .int u.2.2.1, .int u.2.2.2])), (h_out, .inl (cL, 1, .inr (.inl out)))]) (wc := [(h_x, .inr (4, [.ref h_net, .ref h_now, .ref a_don, .ref a_wri, .ref h_per, .ref a_tho, .ref h_aft])), (h_net, .inr (1, [.ref h_ends, .int nc, .int sc, .int br, .int so, .int lo])), (h_ends, .inl (cI, 24, .inl ends)), (h_now, .inr (3, [.int cl, .int ea, .int on])), (h_per, .inr (2, [.ref h_hol, .int pg])), (h_hol, .inl (cI, 10, .inl hol)), (h_aft, .inr (3, [.int ac, .int ae, .int ao]))]) (rv := fun u => some (.int u.1)) ⟨hx, hb, hml, hown, hts⟩ (kX4_reason l hl0 D cI cZ cL H.size h_x a_don a_wri a_tho h_net h_ends h_now h_per h_hol h_aft nc sc br so lo ends cl ea on pg hol ac ae ao p0 p1 N hq) (cwV 2 hts gL_reason_X4_reason rfl rfl rfl (by decide +kernel) ⟨Nat.le_of_ble_eq_true rfl, Nat.le_of_ble_eq_true rfl⟩) hP hD hS hA hKK hKS hKZ [0, 1, 2, 3, 4, 5, 6] [7] [1, 2, 3, 4, 5, 6, 7, 0] rfl rfl (by decide) (by decide) (fun _ => rfl) rfl (by decide) (by decide) (va_recv hK hP (ci := 4) (q0 := 0) rfl rfl) rfl hl.1 rfl (Nat.le_of_ble_eq_true rfl) dL_reason_5 ⟨Nat.le_of_ble_eq_true rfl, Nat.le_of_ble_eq_true rfl⟩ (fun E ce q9 H locs hE hP hD hS h1 h2 h3 => ?_) (fun u H locs hu hP hD hS => ?_)
  · have h := hx1 E hE
    by_cases c0 : E = "java/lang/IllegalArgumentException"
    · have h := it_t h c0
      subst c0
      cases h
      refine vx_catch (own := RL) (name := "java/lang/IllegalArgumentException") hown [] ⟨0, 10, 13, 21⟩ [⟨0, 10, 17, 19⟩] htab (fun z hz => absurd hz List.not_mem_nil) (by decide) (by decide) (hts _ lkL_reason_0) (va_Nw.use rfl (hKS.2 (.castable "java/lang/IllegalArgumentException" "java/lang/IllegalArgumentException") (by decide +kernel))) h1 h2 h3 ?_
      refine lv_astore (lv' := [(4, .ref q9), (0, .ref h_x), (1, .int p0), (2, .int p1), (3, .ref h_out)]) hx hb dL_reason_13 hl (by decide) rfl (fun ls hl => ?_)
      refine lv_iconst (v := 1) hx hb dL_reason_15 (by decide) ?_
      rw [hQQ]
      refine W.widen (k := 1) (n := 6) (Nat.le_of_ble_eq_true rfl) (Nat.le_of_ble_eq_true rfl) ?_
      exact W.iret hx hb hr (fun t ht hW => ⟨rfl, by rw [ht]; exact hP, hD, hS.F ht⟩) hS.2.2 dL_reason_16
    have h := it_f h c0
    by_cases c1 : E = "java/lang/IndexOutOfBoundsException"
    · have h := it_t h c1
      subst c1
      cases h
      refine vx_catch (own := RL) (name := "java/lang/IndexOutOfBoundsException") hown [⟨0, 10, 13, 21⟩] ⟨0, 10, 17, 19⟩ [] htab (List.forall_mem_cons.mpr ⟨Or.inr ⟨by decide, ⟨"java/lang/IllegalArgumentException", hts _ lkL_reason_0, hKX ("java/lang/IndexOutOfBoundsException", "java/lang/IllegalArgumentException") (by decide)⟩⟩, fun z hz => absurd hz List.not_mem_nil⟩) (by decide) (by decide) (hts _ lkL_reason_1) (va_Nw.use rfl (hKS.2 (.castable "java/lang/IndexOutOfBoundsException" "java/lang/IndexOutOfBoundsException") (by decide +kernel))) h1 h2 h3 ?_
      refine lv_astore (lv' := [(4, .ref q9), (0, .ref h_x), (1, .int p0), (2, .int p1), (3, .ref h_out)]) hx hb dL_reason_17 hl (by decide) rfl (fun ls hl => ?_)
      refine lv_iconst (v := 2) hx hb dL_reason_19 (by decide) ?_
      rw [hQQ]
      refine W.widen (k := 1) (n := 6) (Nat.le_of_ble_eq_true rfl) (Nat.le_of_ble_eq_true rfl) ?_
      exact W.iret hx hb hr (fun t ht hW => ⟨rfl, by rw [ht]; exact hP, hD, hS.F ht⟩) hS.2.2 dL_reason_20
    have h := it_f h c1
    cases h
  · obtain ⟨v, w0, w1, w2⟩ := u
    have h := hk1 _ _ _ _ hu
    have hP : va_P D vwCl [(h_x, .inr (4, [.ref h_net, .ref h_now, .ref a_don, .ref a_wri, .ref h_per, .ref a_tho, .ref h_aft])), (h_net, .inr (1, [.ref h_ends, .int nc, .int sc, .int br, .int so, .int lo])), (h_ends, .inl (cI, 24, .inl ends)), (h_now, .inr (3, [.int cl, .int ea, .int on])), (h_per, .inr (2, [.ref h_hol, .int pg])), (h_hol, .inl (cI, 10, .inl hol)), (h_aft, .inr (3, [.int w0, .int w1, .int w2])), (h_out, .inl (cL, 1, .inr (.inl out)))] H := hP
    have hD : va_D A [(h_x, .inr (4, [.ref h_net, .ref h_now, .ref a_don, .ref a_wri, .ref h_per, .ref a_tho, .ref h_aft])), (h_net, .inr (1, [.ref h_ends, .int nc, .int sc, .int br, .int so, .int lo])), (h_ends, .inl (cI, 24, .inl ends)), (h_now, .inr (3, [.int cl, .int ea, .int on])), (h_per, .inr (2, [.ref h_hol, .int pg])), (h_hol, .inl (cI, 10, .inl hol)), (h_aft, .inr (3, [.int w0, .int w1, .int w2])), (h_out, .inl (cL, 1, .inr (.inl out)))] := hD
    show W p l e _ s m _ below meth c H locs _ _ QQ (F0 m 8 ls (.int v :: [.int 0, .ref h_out]))
    refine lv_i2l (v := v.toInt64) hx hb dL_reason_8 rfl ?_
    refine va_last hx hb hK hP hD hS 7 2 rfl rfl (by unfold vp_in; decide) dL_reason_9 (fun H locs hP hD hS => ?_)
    have hP : va_P D vwCl [(h_x, .inr (4, [.ref h_net, .ref h_now, .ref a_don, .ref a_wri, .ref h_per, .ref a_tho, .ref h_aft])), (h_net, .inr (1, [.ref h_ends, .int nc, .int sc, .int br, .int so, .int lo])), (h_ends, .inl (cI, 24, .inl ends)), (h_now, .inr (3, [.int cl, .int ea, .int on])), (h_per, .inr (2, [.ref h_hol, .int pg])), (h_hol, .inl (cI, 10, .inl hol)), (h_aft, .inr (3, [.int w0, .int w1, .int w2])), (h_out, .inl (cL, 1, .inr (.inl (vp_updL out (0 : Int32).toNatClampNeg v.toInt64))))] H := hP
    have hD : va_D A [(h_x, .inr (4, [.ref h_net, .ref h_now, .ref a_don, .ref a_wri, .ref h_per, .ref a_tho, .ref h_aft])), (h_net, .inr (1, [.ref h_ends, .int nc, .int sc, .int br, .int so, .int lo])), (h_ends, .inl (cI, 24, .inl ends)), (h_now, .inr (3, [.int cl, .int ea, .int on])), (h_per, .inr (2, [.ref h_hol, .int pg])), (h_hol, .inl (cI, 10, .inl hol)), (h_aft, .inr (3, [.int w0, .int w1, .int w2])), (h_out, .inl (cL, 1, .inr (.inl (vp_updL out (0 : Int32).toNatClampNeg v.toInt64))))] := hD
    refine lv_goto (tgt := 21) hx hb dL_reason_10 (by decide) ?_
    refine lv_iconst (v := 0) hx hb dL_reason_21 (by decide) ?_
    cases h
    rw [hQQ]
    refine W.widen (k := 1) (n := 6) (Nat.le_of_ble_eq_true rfl) (Nat.le_of_ble_eq_true rfl) ?_
    exact W.iret hx hb hr (fun t ht hW => ⟨rfl, by rw [ht]; exact hP, hD, hS.F ht⟩) hS.2.2 dL_reason_22

def fL_takeBack (N : Nat) (nc : Int32) (sc : Int32) (br : Int32) (so : Int32) (lo : Int32) (ends : Nat → Int32) (cl : Int32) (ea : Int32) (on : Int32) (ds : Int32) (dac : Nat → Int32) (pg : Int32) (hol : Nat → Int32) (ac : Int32) (ae : Int32) (ao : Int32) (out : Nat → Int64)  : Option ((Int32) × (Int32) × (Int32) × (Int32) × (Int32) × (Int32) × (Int32) × (Int32) × (Nat → Int64)) :=
  bh8 (fX4_takeBack N nc sc br so lo ends cl ea on ds dac pg hol ac ae ao) (fun E => (if E = "java/lang/IllegalStateException" then some (1, cl, ea, on, ds, ac, ae, ao, out) else none)) (fun v w0 w1 w2 w3 w4 w5 w6 => some (0, w0, w1, w2, w3, w4, w5, w6, vp_updL out (0 : Int32).toNatClampNeg v.toInt64))
set_option maxRecDepth 100000 in
theorem lkL_takeBack_0 : (.classLink RL 13 "java/lang/IllegalStateException" : Cond) ∈ wsL_takeBack := by decide +kernel
abbrev rmL_takeBack : Room := { frames := 7, cells := 1, slots := 6, locals := 141 }
set_option maxHeartbeats 4000000 in
set_option maxRecDepth 100000 in
theorem kL_takeBack (l : Launch) (hl0 : l.stackTraces = false) (D : va_G) (cI cZ cL : ClassId) (sz0 : Nat) (h_x a_wri a_tho h_net h_ends h_now h_don h_dac h_per h_hol h_aft h_out : Nat) (nc : Int32) (sc : Int32) (br : Int32) (so : Int32) (lo : Int32) (ends : Nat → Int32) (cl : Int32) (ea : Int32) (on : Int32) (ds : Int32) (dac : Nat → Int32) (pg : Int32) (hol : Nat → Int32) (ac : Int32) (ae : Int32) (ao : Int32) (out : Nat → Int64)  (N : Nat) {r : Int32} {r_0 : Int32} {r_1 : Int32} {r_2 : Int32} {r_3 : Int32} {r_4 : Int32} {r_5 : Int32} {r_6 : Int32} {r_out : Nat → Int64} (h : fL_takeBack N nc sc br so lo ends cl ea on ds dac pg hol ac ae ao out  = some (r, r_0, r_1, r_2, r_3, r_4, r_5, r_6, r_out)) : Met l yL_takeBack wsL_takeBack rmL_takeBack (PH D cI cZ cL [.ref h_x, .ref h_out] [(h_x, .inr (4, [.ref h_net, .ref h_now, .ref h_don, .ref a_wri, .ref h_per, .ref a_tho, .ref h_aft])), (h_net, .inr (1, [.ref h_ends, .int nc, .int sc, .int br, .int so, .int lo])), (h_ends, .inl (cI, 24, .inl ends)), (h_now, .inr (3, [.int cl, .int ea, .int on])), (h_don, .inr (0, [.ref h_dac, .int ds])), (h_dac, .inl (cI, 200, .inl dac)), (h_per, .inr (2, [.ref h_hol, .int pg])), (h_hol, .inl (cI, 10, .inl hol)), (h_aft, .inr (3, [.int ac, .int ae, .int ao])), (h_out, .inl (cL, 1, .inr (.inl out)))] sz0) (QM D (some (.int r)) (va_A [(h_x, .inr (4, [.ref h_net, .ref h_now, .ref h_don, .ref a_wri, .ref h_per, .ref a_tho, .ref h_aft])), (h_net, .inr (1, [.ref h_ends, .int nc, .int sc, .int br, .int so, .int lo])), (h_ends, .inl (cI, 24, .inl ends)), (h_now, .inr (3, [.int cl, .int ea, .int on])), (h_don, .inr (0, [.ref h_dac, .int ds])), (h_dac, .inl (cI, 200, .inl dac)), (h_per, .inr (2, [.ref h_hol, .int pg])), (h_hol, .inl (cI, 10, .inl hol)), (h_aft, .inr (3, [.int ac, .int ae, .int ao])), (h_out, .inl (cL, 1, .inr (.inl out)))] sz0) [(h_x, .inr (4, [.ref h_net, .ref h_now, .ref h_don, .ref a_wri, .ref h_per, .ref a_tho, .ref h_aft])), (h_net, .inr (1, [.ref h_ends, .int nc, .int sc, .int br, .int so, .int lo])), (h_ends, .inl (cI, 24, .inl ends)), (h_now, .inr (3, [.int r_0, .int r_1, .int r_2])), (h_don, .inr (0, [.ref h_dac, .int r_3])), (h_dac, .inl (cI, 200, .inl dac)), (h_per, .inr (2, [.ref h_hol, .int pg])), (h_hol, .inl (cI, 10, .inl hol)), (h_aft, .inr (3, [.int r_4, .int r_5, .int r_6])), (h_out, .inl (cL, 1, .inr (.inl r_out)))]) 1 6 (va_A [(h_x, .inr (4, [.ref h_net, .ref h_now, .ref h_don, .ref a_wri, .ref h_per, .ref a_tho, .ref h_aft])), (h_net, .inr (1, [.ref h_ends, .int nc, .int sc, .int br, .int so, .int lo])), (h_ends, .inl (cI, 24, .inl ends)), (h_now, .inr (3, [.int cl, .int ea, .int on])), (h_don, .inr (0, [.ref h_dac, .int ds])), (h_dac, .inl (cI, 200, .inl dac)), (h_per, .inr (2, [.ref h_hol, .int pg])), (h_hol, .inl (cI, 10, .inl hol)), (h_aft, .inr (3, [.int ac, .int ae, .int ao])), (h_out, .inl (cL, 1, .inr (.inl out)))] sz0) := by
  refine zz_ofWH (cc := cL_takeBack) (maxL := 3) (ret := (some .int)) (hh := [(0, 8, 11, 13)]) (by decide) rfl ?_
  intro p e s m args below meth c s₁ B hml hv
  obtain ⟨rfl, hsz, hP, hKK, hD0, hKS, hKZ, hKX⟩ := hv
  have hK := hKK.1
  have hx := B.exec
  have hb := B.bytes
  have hr := B.returns
  have hts := atoms_spec (ws := wsL_takeBack) B.pre
  have hown : s.vm.findClass RL = some m.cls := findClass_of_methodNamed B.named
  have hlocks := B.notSynchronized
  have htab : c.exceptionTable.toList = [⟨0, 8, 11, 13⟩] := (vx_table (x := yL_takeBack) B (hts (.codeWith yL_takeBack cL_takeBack 3 (some .int) [(0, 8, 11, 13)]) List.mem_cons_self)).trans rfl
  subst hsz
  have hD := hD0.self (sz := s.heap.size)
  generalize hAe : va_A [(h_x, .inr (4, [.ref h_net, .ref h_now, .ref h_don, .ref a_wri, .ref h_per, .ref a_tho, .ref h_aft])), (h_net, .inr (1, [.ref h_ends, .int nc, .int sc, .int br, .int so, .int lo])), (h_ends, .inl (cI, 24, .inl ends)), (h_now, .inr (3, [.int cl, .int ea, .int on])), (h_don, .inr (0, [.ref h_dac, .int ds])), (h_dac, .inl (cI, 200, .inl dac)), (h_per, .inr (2, [.ref h_hol, .int pg])), (h_hol, .inl (cI, 10, .inl hol)), (h_aft, .inr (3, [.int ac, .int ae, .int ao])), (h_out, .inl (cL, 1, .inr (.inl out)))] s.heap.size = A at hD hKZ ⊢
  have hA : ∀ q : Nat, s.heap.size ≤ q → A q := fun q h => by rw [← hAe]; exact Or.inr h
  have hS : va_S A s.heap s.heap [] := va_S.rf
  have hl := lv_entry ([.ref h_x, .ref h_out]) (n := 3) (Nat.le_of_ble_eq_true rfl)
  rw [lg_entry_eq]
  generalize (lg_sl ([.ref h_x, .ref h_out]) ++ List.replicate (3 - (lg_sl ([.ref h_x, .ref h_out])).length) Slot.unset).toArray = ls at hl ⊢
  have hl : lv_has ls 3 [(0, .ref h_x), (1, .ref h_out)] := hl
  obtain ⟨QQ, hQQ⟩ : ∃ Z, Z = MQ below (QM D (some (.int r)) A [(h_x, .inr (4, [.ref h_net, .ref h_now, .ref h_don, .ref a_wri, .ref h_per, .ref a_tho, .ref h_aft])), (h_net, .inr (1, [.ref h_ends, .int nc, .int sc, .int br, .int so, .int lo])), (h_ends, .inl (cI, 24, .inl ends)), (h_now, .inr (3, [.int r_0, .int r_1, .int r_2])), (h_don, .inr (0, [.ref h_dac, .int r_3])), (h_dac, .inl (cI, 200, .inl dac)), (h_per, .inr (2, [.ref h_hol, .int pg])), (h_hol, .inl (cI, 10, .inl hol)), (h_aft, .inr (3, [.int r_4, .int r_5, .int r_6])), (h_out, .inl (cL, 1, .inr (.inl r_out)))]) ([.ref h_x, .ref h_out] : List Value).toArray s 1 6 A := ⟨_, rfl⟩
  rw [← hQQ]
  obtain ⟨H, locs, hHe, hLe⟩ : ∃ (H : Heap) (locs : List Loc), H = s.heap ∧ locs = [] := ⟨_, _, rfl, rfl⟩
  have hP : va_P D vwCl [(h_x, .inr (4, [.ref h_net, .ref h_now, .ref h_don, .ref a_wri, .ref h_per, .ref a_tho, .ref h_aft])), (h_net, .inr (1, [.ref h_ends, .int nc, .int sc, .int br, .int so, .int lo])), (h_ends, .inl (cI, 24, .inl ends)), (h_now, .inr (3, [.int cl, .int ea, .int on])), (h_don, .inr (0, [.ref h_dac, .int ds])), (h_dac, .inl (cI, 200, .inl dac)), (h_per, .inr (2, [.ref h_hol, .int pg])), (h_hol, .inl (cI, 10, .inl hol)), (h_aft, .inr (3, [.int ac, .int ae, .int ao])), (h_out, .inl (cL, 1, .inr (.inl out)))] H := by rw [hHe]; exact hP
  have hS : va_S A s.heap H locs := by rw [hHe, hLe]; exact hS
  have hW0 : ∀ QQ : State → Prop, W p l e (headSpec wsL_takeBack rmL_takeBack).room s m (([.ref h_x, .ref h_out] : List Value).toArray) below meth c H locs 0 0 QQ (F0 m 0 ls []) → W p l e (headSpec wsL_takeBack rmL_takeBack).room s m (([.ref h_x, .ref h_out] : List Value).toArray) below meth c s.heap [] 0 0 QQ (F0 m 0 ls []) := by rw [hHe, hLe]; exact fun _ h => h
  refine hW0 _ ?_
  clear hW0
  unfold fL_takeBack at h
  refine lv_aload_n hx hb dL_takeBack_0 rfl (lv_at hl 1 rfl) ?_
  refine lv_iconst (v := 0) hx hb dL_takeBack_1 (by decide) ?_
  refine lv_aload_n hx hb dL_takeBack_2 rfl (lv_at hl 0 rfl) ?_
  obtain ⟨Rr, hq, hx1, hk1⟩ := bh8_r h
  refine zz_xV (As := []) (wr := [(h_out, .inl (cL, 1, .inr (.inl out)))]) (w1 := fun u : (Int32) × (Int32) × (Int32) × (Int32) × (Int32) × (Int32) × (Int32) × (Int32) => [(h_x, .inr (4, [.ref h_net, .ref h_now, .ref h_don, .ref a_wri, .ref h_per, .ref a_tho, .ref h_aft])), (h_net, .inr (1, [.ref h_ends, .int nc, .int sc, .int br, .int so, .int lo])), (h_ends, .inl (cI, 24, .inl ends)), (h_now, .inr (3, [.int u.2.1, .int u.2.2.1, .int u.2.2.2.1])), (h_don, .inr (0, [.ref h_dac, .int u.2.2.2.2.1])), (h_dac, .inl (cI, 200, .inl dac)), (h_per, .inr (2, [.ref h_hol, .int pg])), (h_hol, .inl (cI, 10, .inl hol)), (h_aft, .inr (3, [.int u.2.2.2.2.2.1, .int u.2.2.2.2.2.2.1, .int u.2.2.2.2.2.2.2]))]) (wt' := fun u : (Int32) × (Int32) × (Int32) × (Int32) × (Int32) × (Int32) × (Int32) × (Int32) => [(h_x, .inr (4, [.ref h_net, .ref h_now, .ref h_don, .ref a_wri, .ref h_per, .ref a_tho, .ref h_aft])), (h_net, .inr (1, [.ref h_ends, .int nc, .int sc, .int br, .int so, .int lo])), (h_ends, .inl (cI, 24, .inl ends)), (h_now, .inr (3, [.int u.2.1, .int u.2.2.1, .int u.2.2.2.1])), (h_don, .inr (0, [.ref h_dac, .int u.2.2.2.2.1])), (h_dac, .inl (cI, 200, .inl dac)), (h_per, .inr (2, [.ref h_hol, .int pg])), (h_hol, .inl (cI, 10, .inl hol)), (h_aft, .inr (3, [.int u.2.2.2.2.2.1, .int u.2.2.2.2.2.2.1, .int u.2.2.2.2.2.2.2])), (h_out, .inl (cL, 1, .inr (.inl out)))]) (wc := [(h_x, .inr (4, [.ref h_net, .ref h_now, .ref h_don, .ref a_wri, .ref h_per, .ref a_tho, .ref h_aft])), (h_net, .inr (1, [.ref h_ends, .int nc, .int sc, .int br, .int so, .int lo])), (h_ends, .inl (cI, 24, .inl ends)), (h_now, .inr (3, [.int cl, .int ea, .int on])), (h_don, .inr (0, [.ref h_dac, .int ds])), (h_dac, .inl (cI, 200, .inl dac)), (h_per, .inr (2, [.ref h_hol, .int pg])), (h_hol, .inl (cI, 10, .inl hol)), (h_aft, .inr (3, [.int ac, .int ae, .int ao]))]) (rv := fun u => some (.int u.1)) ⟨hx, hb, hml, hown, hts⟩ (kX4_takeBack l hl0 D cI cZ cL H.size h_x a_wri a_tho h_net h_ends h_now h_don h_dac h_per h_hol h_aft nc sc br so lo ends cl ea on ds dac pg hol ac ae ao N hq) (cwV 0 hts gL_takeBack_X4_takeBack rfl rfl rfl (by decide +kernel) ⟨Nat.le_of_ble_eq_true rfl, Nat.le_of_ble_eq_true rfl⟩) hP hD hS hA hKK hKS hKZ [0, 1, 2, 3, 4, 5, 6, 7, 8] [9] [1, 2, 3, 4, 5, 6, 7, 8, 9, 0] rfl rfl (by decide) (by decide) (fun _ => rfl) rfl (by decide) (by decide) (va_recv hK hP (ci := 4) (q0 := 0) rfl rfl) rfl hl.1 rfl (Nat.le_of_ble_eq_true rfl) dL_takeBack_3 ⟨Nat.le_of_ble_eq_true rfl, Nat.le_of_ble_eq_true rfl⟩ (fun E ce q9 H locs hE hP hD hS h1 h2 h3 => ?_) (fun u H locs hu hP hD hS => ?_)
  · have h := hx1 E hE
    by_cases c0 : E = "java/lang/IllegalStateException"
    · have h := it_t h c0
      subst c0
      cases h
      refine vx_catch (own := RL) (name := "java/lang/IllegalStateException") hown [] ⟨0, 8, 11, 13⟩ [] htab (fun z hz => absurd hz List.not_mem_nil) (by decide) (by decide) (hts _ lkL_takeBack_0) (va_Nw.use rfl (hKS.2 (.castable "java/lang/IllegalStateException" "java/lang/IllegalStateException") (by decide +kernel))) h1 h2 h3 ?_
      refine lv_astore_n (lv' := [(2, .ref q9), (0, .ref h_x), (1, .ref h_out)]) hx hb dL_takeBack_11 rfl hl (by decide) rfl (fun ls hl => ?_)
      refine lv_iconst (v := 1) hx hb dL_takeBack_12 (by decide) ?_
      rw [hQQ]
      refine W.widen (k := 1) (n := 6) (Nat.le_of_ble_eq_true rfl) (Nat.le_of_ble_eq_true rfl) ?_
      exact W.iret hx hb hr (fun t ht hW => ⟨rfl, by rw [ht]; exact hP, hD, hS.F ht⟩) hS.2.2 dL_takeBack_13
    have h := it_f h c0
    cases h
  · obtain ⟨v, w0, w1, w2, w3, w4, w5, w6⟩ := u
    have h := hk1 _ _ _ _ _ _ _ _ hu
    have hP : va_P D vwCl [(h_x, .inr (4, [.ref h_net, .ref h_now, .ref h_don, .ref a_wri, .ref h_per, .ref a_tho, .ref h_aft])), (h_net, .inr (1, [.ref h_ends, .int nc, .int sc, .int br, .int so, .int lo])), (h_ends, .inl (cI, 24, .inl ends)), (h_now, .inr (3, [.int w0, .int w1, .int w2])), (h_don, .inr (0, [.ref h_dac, .int w3])), (h_dac, .inl (cI, 200, .inl dac)), (h_per, .inr (2, [.ref h_hol, .int pg])), (h_hol, .inl (cI, 10, .inl hol)), (h_aft, .inr (3, [.int w4, .int w5, .int w6])), (h_out, .inl (cL, 1, .inr (.inl out)))] H := hP
    have hD : va_D A [(h_x, .inr (4, [.ref h_net, .ref h_now, .ref h_don, .ref a_wri, .ref h_per, .ref a_tho, .ref h_aft])), (h_net, .inr (1, [.ref h_ends, .int nc, .int sc, .int br, .int so, .int lo])), (h_ends, .inl (cI, 24, .inl ends)), (h_now, .inr (3, [.int w0, .int w1, .int w2])), (h_don, .inr (0, [.ref h_dac, .int w3])), (h_dac, .inl (cI, 200, .inl dac)), (h_per, .inr (2, [.ref h_hol, .int pg])), (h_hol, .inl (cI, 10, .inl hol)), (h_aft, .inr (3, [.int w4, .int w5, .int w6])), (h_out, .inl (cL, 1, .inr (.inl out)))] := hD
    show W p l e _ s m _ below meth c H locs _ _ QQ (F0 m 6 ls (.int v :: [.int 0, .ref h_out]))
    refine lv_i2l (v := v.toInt64) hx hb dL_takeBack_6 rfl ?_
    refine va_last hx hb hK hP hD hS 9 2 rfl rfl (by unfold vp_in; decide) dL_takeBack_7 (fun H locs hP hD hS => ?_)
    have hP : va_P D vwCl [(h_x, .inr (4, [.ref h_net, .ref h_now, .ref h_don, .ref a_wri, .ref h_per, .ref a_tho, .ref h_aft])), (h_net, .inr (1, [.ref h_ends, .int nc, .int sc, .int br, .int so, .int lo])), (h_ends, .inl (cI, 24, .inl ends)), (h_now, .inr (3, [.int w0, .int w1, .int w2])), (h_don, .inr (0, [.ref h_dac, .int w3])), (h_dac, .inl (cI, 200, .inl dac)), (h_per, .inr (2, [.ref h_hol, .int pg])), (h_hol, .inl (cI, 10, .inl hol)), (h_aft, .inr (3, [.int w4, .int w5, .int w6])), (h_out, .inl (cL, 1, .inr (.inl (vp_updL out (0 : Int32).toNatClampNeg v.toInt64))))] H := hP
    have hD : va_D A [(h_x, .inr (4, [.ref h_net, .ref h_now, .ref h_don, .ref a_wri, .ref h_per, .ref a_tho, .ref h_aft])), (h_net, .inr (1, [.ref h_ends, .int nc, .int sc, .int br, .int so, .int lo])), (h_ends, .inl (cI, 24, .inl ends)), (h_now, .inr (3, [.int w0, .int w1, .int w2])), (h_don, .inr (0, [.ref h_dac, .int w3])), (h_dac, .inl (cI, 200, .inl dac)), (h_per, .inr (2, [.ref h_hol, .int pg])), (h_hol, .inl (cI, 10, .inl hol)), (h_aft, .inr (3, [.int w4, .int w5, .int w6])), (h_out, .inl (cL, 1, .inr (.inl (vp_updL out (0 : Int32).toNatClampNeg v.toInt64))))] := hD
    refine lv_goto (tgt := 14) hx hb dL_takeBack_8 (by decide) ?_
    refine lv_iconst (v := 0) hx hb dL_takeBack_14 (by decide) ?_
    cases h
    rw [hQQ]
    refine W.widen (k := 1) (n := 6) (Nat.le_of_ble_eq_true rfl) (Nat.le_of_ble_eq_true rfl) ?_
    exact W.iret hx hb hr (fun t ht hW => ⟨rfl, by rw [ht]; exact hP, hD, hS.F ht⟩) hS.2.2 dL_takeBack_15

def fL_logged (N : Nat) (ds : Int32) (dac : Nat → Int32) (out : Nat → Int64) (p0 : Int32) : Option ((Int32) × (Nat → Int64)) :=
  bh1 (fX4_logged N ds dac p0) (fun E => (if E = "java/lang/IndexOutOfBoundsException" then some (1, out) else none)) (fun v => some (0, vp_updL out (0 : Int32).toNatClampNeg v.toInt64))
set_option maxRecDepth 100000 in
theorem lkL_logged_0 : (.classLink RL 19 "java/lang/IndexOutOfBoundsException" : Cond) ∈ wsL_logged := by decide +kernel
abbrev rmL_logged : Room := { frames := 7, cells := 1, slots := 6, locals := 103 }
set_option maxHeartbeats 4000000 in
set_option maxRecDepth 100000 in
theorem kL_logged (l : Launch) (hl0 : l.stackTraces = false) (D : va_G) (cI cZ cL : ClassId) (sz0 : Nat) (h_x a_net a_now a_wri a_per a_tho a_aft h_don h_dac h_out : Nat) (ds : Int32) (dac : Nat → Int32) (out : Nat → Int64) (p0 : Int32) (N : Nat) {r : Int32} {r_out : Nat → Int64} (h : fL_logged N ds dac out p0 = some (r, r_out)) : Met l yL_logged wsL_logged rmL_logged (PH D cI cZ cL [.ref h_x, .int p0, .ref h_out] [(h_x, .inr (4, [.ref a_net, .ref a_now, .ref h_don, .ref a_wri, .ref a_per, .ref a_tho, .ref a_aft])), (h_don, .inr (0, [.ref h_dac, .int ds])), (h_dac, .inl (cI, 200, .inl dac)), (h_out, .inl (cL, 1, .inr (.inl out)))] sz0) (QM D (some (.int r)) (va_A [(h_x, .inr (4, [.ref a_net, .ref a_now, .ref h_don, .ref a_wri, .ref a_per, .ref a_tho, .ref a_aft])), (h_don, .inr (0, [.ref h_dac, .int ds])), (h_dac, .inl (cI, 200, .inl dac)), (h_out, .inl (cL, 1, .inr (.inl out)))] sz0) [(h_x, .inr (4, [.ref a_net, .ref a_now, .ref h_don, .ref a_wri, .ref a_per, .ref a_tho, .ref a_aft])), (h_don, .inr (0, [.ref h_dac, .int ds])), (h_dac, .inl (cI, 200, .inl dac)), (h_out, .inl (cL, 1, .inr (.inl r_out)))]) 1 6 (va_A [(h_x, .inr (4, [.ref a_net, .ref a_now, .ref h_don, .ref a_wri, .ref a_per, .ref a_tho, .ref a_aft])), (h_don, .inr (0, [.ref h_dac, .int ds])), (h_dac, .inl (cI, 200, .inl dac)), (h_out, .inl (cL, 1, .inr (.inl out)))] sz0) := by
  refine zz_ofWH (cc := cL_logged) (maxL := 4) (ret := (some .int)) (hh := [(0, 9, 12, 19)]) (by decide) rfl ?_
  intro p e s m args below meth c s₁ B hml hv
  obtain ⟨rfl, hsz, hP, hKK, hD0, hKS, hKZ, hKX⟩ := hv
  have hK := hKK.1
  have hx := B.exec
  have hb := B.bytes
  have hr := B.returns
  have hts := atoms_spec (ws := wsL_logged) B.pre
  have hown : s.vm.findClass RL = some m.cls := findClass_of_methodNamed B.named
  have hlocks := B.notSynchronized
  have htab : c.exceptionTable.toList = [⟨0, 9, 12, 19⟩] := (vx_table (x := yL_logged) B (hts (.codeWith yL_logged cL_logged 4 (some .int) [(0, 9, 12, 19)]) List.mem_cons_self)).trans rfl
  subst hsz
  have hD := hD0.self (sz := s.heap.size)
  generalize hAe : va_A [(h_x, .inr (4, [.ref a_net, .ref a_now, .ref h_don, .ref a_wri, .ref a_per, .ref a_tho, .ref a_aft])), (h_don, .inr (0, [.ref h_dac, .int ds])), (h_dac, .inl (cI, 200, .inl dac)), (h_out, .inl (cL, 1, .inr (.inl out)))] s.heap.size = A at hD hKZ ⊢
  have hA : ∀ q : Nat, s.heap.size ≤ q → A q := fun q h => by rw [← hAe]; exact Or.inr h
  have hS : va_S A s.heap s.heap [] := va_S.rf
  have hl := lv_entry ([.ref h_x, .int p0, .ref h_out]) (n := 4) (Nat.le_of_ble_eq_true rfl)
  rw [lg_entry_eq]
  generalize (lg_sl ([.ref h_x, .int p0, .ref h_out]) ++ List.replicate (4 - (lg_sl ([.ref h_x, .int p0, .ref h_out])).length) Slot.unset).toArray = ls at hl ⊢
  have hl : lv_has ls 4 [(0, .ref h_x), (1, .int p0), (2, .ref h_out)] := hl
  obtain ⟨QQ, hQQ⟩ : ∃ Z, Z = MQ below (QM D (some (.int r)) A [(h_x, .inr (4, [.ref a_net, .ref a_now, .ref h_don, .ref a_wri, .ref a_per, .ref a_tho, .ref a_aft])), (h_don, .inr (0, [.ref h_dac, .int ds])), (h_dac, .inl (cI, 200, .inl dac)), (h_out, .inl (cL, 1, .inr (.inl r_out)))]) ([.ref h_x, .int p0, .ref h_out] : List Value).toArray s 1 6 A := ⟨_, rfl⟩
  rw [← hQQ]
  obtain ⟨H, locs, hHe, hLe⟩ : ∃ (H : Heap) (locs : List Loc), H = s.heap ∧ locs = [] := ⟨_, _, rfl, rfl⟩
  have hP : va_P D vwCl [(h_x, .inr (4, [.ref a_net, .ref a_now, .ref h_don, .ref a_wri, .ref a_per, .ref a_tho, .ref a_aft])), (h_don, .inr (0, [.ref h_dac, .int ds])), (h_dac, .inl (cI, 200, .inl dac)), (h_out, .inl (cL, 1, .inr (.inl out)))] H := by rw [hHe]; exact hP
  have hS : va_S A s.heap H locs := by rw [hHe, hLe]; exact hS
  have hW0 : ∀ QQ : State → Prop, W p l e (headSpec wsL_logged rmL_logged).room s m (([.ref h_x, .int p0, .ref h_out] : List Value).toArray) below meth c H locs 0 0 QQ (F0 m 0 ls []) → W p l e (headSpec wsL_logged rmL_logged).room s m (([.ref h_x, .int p0, .ref h_out] : List Value).toArray) below meth c s.heap [] 0 0 QQ (F0 m 0 ls []) := by rw [hHe, hLe]; exact fun _ h => h
  refine hW0 _ ?_
  clear hW0
  unfold fL_logged at h
  refine lv_aload_n hx hb dL_logged_0 rfl (lv_at hl 2 rfl) ?_
  refine lv_iconst (v := 0) hx hb dL_logged_1 (by decide) ?_
  refine lv_aload_n hx hb dL_logged_2 rfl (lv_at hl 0 rfl) ?_
  refine lv_iload_n hx hb dL_logged_3 rfl (lv_at hl 1 rfl) ?_
  obtain ⟨Rr, hq, hx1, hk1⟩ := bh1_r h
  refine zz_xV (As := [.int p0]) (wr := [(h_out, .inl (cL, 1, .inr (.inl out)))]) (w1 := fun u : (Int32) => [(h_x, .inr (4, [.ref a_net, .ref a_now, .ref h_don, .ref a_wri, .ref a_per, .ref a_tho, .ref a_aft])), (h_don, .inr (0, [.ref h_dac, .int ds])), (h_dac, .inl (cI, 200, .inl dac))]) (wt' := fun u : (Int32) => [(h_x, .inr (4, [.ref a_net, .ref a_now, .ref h_don, .ref a_wri, .ref a_per, .ref a_tho, .ref a_aft])), (h_don, .inr (0, [.ref h_dac, .int ds])), (h_dac, .inl (cI, 200, .inl dac)), (h_out, .inl (cL, 1, .inr (.inl out)))]) (wc := [(h_x, .inr (4, [.ref a_net, .ref a_now, .ref h_don, .ref a_wri, .ref a_per, .ref a_tho, .ref a_aft])), (h_don, .inr (0, [.ref h_dac, .int ds])), (h_dac, .inl (cI, 200, .inl dac))]) (rv := fun u => some (.int u)) ⟨hx, hb, hml, hown, hts⟩ (kX4_logged l hl0 D cI cZ cL H.size h_x a_net a_now a_wri a_per a_tho a_aft h_don h_dac ds dac p0 N hq) (cwV 1 hts gL_logged_X4_logged rfl rfl rfl (by decide +kernel) ⟨Nat.le_of_ble_eq_true rfl, Nat.le_of_ble_eq_true rfl⟩) hP hD hS hA hKK hKS hKZ [0, 1, 2] [3] [1, 2, 3, 0] rfl rfl (by decide) (by decide) (fun _ => rfl) rfl (by decide) (by decide) (va_recv hK hP (ci := 4) (q0 := 0) rfl rfl) rfl hl.1 rfl (Nat.le_of_ble_eq_true rfl) dL_logged_4 ⟨Nat.le_of_ble_eq_true rfl, Nat.le_of_ble_eq_true rfl⟩ (fun E ce q9 H locs hE hP hD hS h1 h2 h3 => ?_) (fun u H locs hu hP hD hS => ?_)
  · have h := hx1 E hE
    by_cases c0 : E = "java/lang/IndexOutOfBoundsException"
    · have h := it_t h c0
      subst c0
      cases h
      refine vx_catch (own := RL) (name := "java/lang/IndexOutOfBoundsException") hown [] ⟨0, 9, 12, 19⟩ [] htab (fun z hz => absurd hz List.not_mem_nil) (by decide) (by decide) (hts _ lkL_logged_0) (va_Nw.use rfl (hKS.2 (.castable "java/lang/IndexOutOfBoundsException" "java/lang/IndexOutOfBoundsException") (by decide +kernel))) h1 h2 h3 ?_
      refine lv_astore_n (lv' := [(3, .ref q9), (0, .ref h_x), (1, .int p0), (2, .ref h_out)]) hx hb dL_logged_12 rfl hl (by decide) rfl (fun ls hl => ?_)
      refine lv_iconst (v := 1) hx hb dL_logged_13 (by decide) ?_
      rw [hQQ]
      refine W.widen (k := 1) (n := 6) (Nat.le_of_ble_eq_true rfl) (Nat.le_of_ble_eq_true rfl) ?_
      exact W.iret hx hb hr (fun t ht hW => ⟨rfl, by rw [ht]; exact hP, hD, hS.F ht⟩) hS.2.2 dL_logged_14
    have h := it_f h c0
    cases h
  · obtain ⟨v, rfl⟩ : ∃ z, z = u := ⟨_, rfl⟩
    have h := hk1 _ hu
    have hP : va_P D vwCl [(h_x, .inr (4, [.ref a_net, .ref a_now, .ref h_don, .ref a_wri, .ref a_per, .ref a_tho, .ref a_aft])), (h_don, .inr (0, [.ref h_dac, .int ds])), (h_dac, .inl (cI, 200, .inl dac)), (h_out, .inl (cL, 1, .inr (.inl out)))] H := hP
    have hD : va_D A [(h_x, .inr (4, [.ref a_net, .ref a_now, .ref h_don, .ref a_wri, .ref a_per, .ref a_tho, .ref a_aft])), (h_don, .inr (0, [.ref h_dac, .int ds])), (h_dac, .inl (cI, 200, .inl dac)), (h_out, .inl (cL, 1, .inr (.inl out)))] := hD
    show W p l e _ s m _ below meth c H locs _ _ QQ (F0 m 7 ls (.int v :: [.int 0, .ref h_out]))
    refine lv_i2l (v := v.toInt64) hx hb dL_logged_7 rfl ?_
    refine va_last hx hb hK hP hD hS 3 2 rfl rfl (by unfold vp_in; decide) dL_logged_8 (fun H locs hP hD hS => ?_)
    have hP : va_P D vwCl [(h_x, .inr (4, [.ref a_net, .ref a_now, .ref h_don, .ref a_wri, .ref a_per, .ref a_tho, .ref a_aft])), (h_don, .inr (0, [.ref h_dac, .int ds])), (h_dac, .inl (cI, 200, .inl dac)), (h_out, .inl (cL, 1, .inr (.inl (vp_updL out (0 : Int32).toNatClampNeg v.toInt64))))] H := hP
    have hD : va_D A [(h_x, .inr (4, [.ref a_net, .ref a_now, .ref h_don, .ref a_wri, .ref a_per, .ref a_tho, .ref a_aft])), (h_don, .inr (0, [.ref h_dac, .int ds])), (h_dac, .inl (cI, 200, .inl dac)), (h_out, .inl (cL, 1, .inr (.inl (vp_updL out (0 : Int32).toNatClampNeg v.toInt64))))] := hD
    refine lv_goto (tgt := 15) hx hb dL_logged_9 (by decide) ?_
    refine lv_iconst (v := 0) hx hb dL_logged_15 (by decide) ?_
    cases h
    rw [hQQ]
    refine W.widen (k := 1) (n := 6) (Nat.le_of_ble_eq_true rfl) (Nat.le_of_ble_eq_true rfl) ?_
    exact W.iret hx hb hr (fun t ht hW => ⟨rfl, by rw [ht]; exact hP, hD, hS.F ht⟩) hS.2.2 dL_logged_16

def fL_times (N : Nat) (nc : Int32) (sc : Int32) (br : Int32) (so : Int32) (lo : Int32) (ds : Int32) (dac : Nat → Int32) (out : Nat → Int64) (p0 : Int32) (p1 : Int32) : Option ((Int32) × (Nat → Int64)) :=
  bh1 (fX4_times N nc sc br so lo ds dac p0 p1) (fun E => (if E = "java/lang/IllegalArgumentException" then some (1, out) else (if E = "java/lang/IndexOutOfBoundsException" then some (2, out) else none))) (fun v => some (0, vp_updL out (0 : Int32).toNatClampNeg v.toInt64))
set_option maxRecDepth 100000 in
theorem lkL_times_0 : (.classLink RL 21 "java/lang/IllegalArgumentException" : Cond) ∈ wsL_times := by decide +kernel
set_option maxRecDepth 100000 in
theorem lkL_times_1 : (.classLink RL 19 "java/lang/IndexOutOfBoundsException" : Cond) ∈ wsL_times := by decide +kernel
abbrev rmL_times : Room := { frames := 8, cells := 1, slots := 6, locals := 126 }
set_option maxHeartbeats 4000000 in
set_option maxRecDepth 100000 in
theorem kL_times (l : Launch) (hl0 : l.stackTraces = false) (D : va_G) (cI cZ cL : ClassId) (sz0 : Nat) (h_x a_now a_wri a_per a_tho a_aft h_net a_ends h_don h_dac h_out : Nat) (nc : Int32) (sc : Int32) (br : Int32) (so : Int32) (lo : Int32) (ds : Int32) (dac : Nat → Int32) (out : Nat → Int64) (p0 : Int32) (p1 : Int32) (N : Nat) {r : Int32} {r_out : Nat → Int64} (h : fL_times N nc sc br so lo ds dac out p0 p1 = some (r, r_out)) : Met l yL_times wsL_times rmL_times (PH D cI cZ cL [.ref h_x, .int p0, .int p1, .ref h_out] [(h_x, .inr (4, [.ref h_net, .ref a_now, .ref h_don, .ref a_wri, .ref a_per, .ref a_tho, .ref a_aft])), (h_net, .inr (1, [.ref a_ends, .int nc, .int sc, .int br, .int so, .int lo])), (h_don, .inr (0, [.ref h_dac, .int ds])), (h_dac, .inl (cI, 200, .inl dac)), (h_out, .inl (cL, 1, .inr (.inl out)))] sz0) (QM D (some (.int r)) (va_A [(h_x, .inr (4, [.ref h_net, .ref a_now, .ref h_don, .ref a_wri, .ref a_per, .ref a_tho, .ref a_aft])), (h_net, .inr (1, [.ref a_ends, .int nc, .int sc, .int br, .int so, .int lo])), (h_don, .inr (0, [.ref h_dac, .int ds])), (h_dac, .inl (cI, 200, .inl dac)), (h_out, .inl (cL, 1, .inr (.inl out)))] sz0) [(h_x, .inr (4, [.ref h_net, .ref a_now, .ref h_don, .ref a_wri, .ref a_per, .ref a_tho, .ref a_aft])), (h_net, .inr (1, [.ref a_ends, .int nc, .int sc, .int br, .int so, .int lo])), (h_don, .inr (0, [.ref h_dac, .int ds])), (h_dac, .inl (cI, 200, .inl dac)), (h_out, .inl (cL, 1, .inr (.inl r_out)))]) 1 6 (va_A [(h_x, .inr (4, [.ref h_net, .ref a_now, .ref h_don, .ref a_wri, .ref a_per, .ref a_tho, .ref a_aft])), (h_net, .inr (1, [.ref a_ends, .int nc, .int sc, .int br, .int so, .int lo])), (h_don, .inr (0, [.ref h_dac, .int ds])), (h_dac, .inl (cI, 200, .inl dac)), (h_out, .inl (cL, 1, .inr (.inl out)))] sz0) := by
  refine zz_ofWH (cc := cL_times) (maxL := 5) (ret := (some .int)) (hh := [(0, 10, 13, 21), (0, 10, 17, 19)]) (by decide) rfl ?_
  intro p e s m args below meth c s₁ B hml hv
  obtain ⟨rfl, hsz, hP, hKK, hD0, hKS, hKZ, hKX⟩ := hv
  have hK := hKK.1
  have hx := B.exec
  have hb := B.bytes
  have hr := B.returns
  have hts := atoms_spec (ws := wsL_times) B.pre
  have hown : s.vm.findClass RL = some m.cls := findClass_of_methodNamed B.named
  have hlocks := B.notSynchronized
  have htab : c.exceptionTable.toList = [⟨0, 10, 13, 21⟩, ⟨0, 10, 17, 19⟩] := (vx_table (x := yL_times) B (hts (.codeWith yL_times cL_times 5 (some .int) [(0, 10, 13, 21), (0, 10, 17, 19)]) List.mem_cons_self)).trans rfl
  subst hsz
  have hD := hD0.self (sz := s.heap.size)
  generalize hAe : va_A [(h_x, .inr (4, [.ref h_net, .ref a_now, .ref h_don, .ref a_wri, .ref a_per, .ref a_tho, .ref a_aft])), (h_net, .inr (1, [.ref a_ends, .int nc, .int sc, .int br, .int so, .int lo])), (h_don, .inr (0, [.ref h_dac, .int ds])), (h_dac, .inl (cI, 200, .inl dac)), (h_out, .inl (cL, 1, .inr (.inl out)))] s.heap.size = A at hD hKZ ⊢
  have hA : ∀ q : Nat, s.heap.size ≤ q → A q := fun q h => by rw [← hAe]; exact Or.inr h
  have hS : va_S A s.heap s.heap [] := va_S.rf
  have hl := lv_entry ([.ref h_x, .int p0, .int p1, .ref h_out]) (n := 5) (Nat.le_of_ble_eq_true rfl)
  rw [lg_entry_eq]
  generalize (lg_sl ([.ref h_x, .int p0, .int p1, .ref h_out]) ++ List.replicate (5 - (lg_sl ([.ref h_x, .int p0, .int p1, .ref h_out])).length) Slot.unset).toArray = ls at hl ⊢
  have hl : lv_has ls 5 [(0, .ref h_x), (1, .int p0), (2, .int p1), (3, .ref h_out)] := hl
  obtain ⟨QQ, hQQ⟩ : ∃ Z, Z = MQ below (QM D (some (.int r)) A [(h_x, .inr (4, [.ref h_net, .ref a_now, .ref h_don, .ref a_wri, .ref a_per, .ref a_tho, .ref a_aft])), (h_net, .inr (1, [.ref a_ends, .int nc, .int sc, .int br, .int so, .int lo])), (h_don, .inr (0, [.ref h_dac, .int ds])), (h_dac, .inl (cI, 200, .inl dac)), (h_out, .inl (cL, 1, .inr (.inl r_out)))]) ([.ref h_x, .int p0, .int p1, .ref h_out] : List Value).toArray s 1 6 A := ⟨_, rfl⟩
  rw [← hQQ]
  obtain ⟨H, locs, hHe, hLe⟩ : ∃ (H : Heap) (locs : List Loc), H = s.heap ∧ locs = [] := ⟨_, _, rfl, rfl⟩
  have hP : va_P D vwCl [(h_x, .inr (4, [.ref h_net, .ref a_now, .ref h_don, .ref a_wri, .ref a_per, .ref a_tho, .ref a_aft])), (h_net, .inr (1, [.ref a_ends, .int nc, .int sc, .int br, .int so, .int lo])), (h_don, .inr (0, [.ref h_dac, .int ds])), (h_dac, .inl (cI, 200, .inl dac)), (h_out, .inl (cL, 1, .inr (.inl out)))] H := by rw [hHe]; exact hP
  have hS : va_S A s.heap H locs := by rw [hHe, hLe]; exact hS
  have hW0 : ∀ QQ : State → Prop, W p l e (headSpec wsL_times rmL_times).room s m (([.ref h_x, .int p0, .int p1, .ref h_out] : List Value).toArray) below meth c H locs 0 0 QQ (F0 m 0 ls []) → W p l e (headSpec wsL_times rmL_times).room s m (([.ref h_x, .int p0, .int p1, .ref h_out] : List Value).toArray) below meth c s.heap [] 0 0 QQ (F0 m 0 ls []) := by rw [hHe, hLe]; exact fun _ h => h
  refine hW0 _ ?_
  clear hW0
  unfold fL_times at h
  refine lv_aload_n hx hb dL_times_0 rfl (lv_at hl 3 rfl) ?_
  refine lv_iconst (v := 0) hx hb dL_times_1 (by decide) ?_
  refine lv_aload_n hx hb dL_times_2 rfl (lv_at hl 0 rfl) ?_
  refine lv_iload_n hx hb dL_times_3 rfl (lv_at hl 1 rfl) ?_
  refine lv_iload_n hx hb dL_times_4 rfl (lv_at hl 2 rfl) ?_
  obtain ⟨Rr, hq, hx1, hk1⟩ := bh1_r h
  refine zz_xV (As := [.int p0, .int p1]) (wr := [(h_out, .inl (cL, 1, .inr (.inl out)))]) (w1 := fun u : (Int32) => [(h_x, .inr (4, [.ref h_net, .ref a_now, .ref h_don, .ref a_wri, .ref a_per, .ref a_tho, .ref a_aft])), (h_net, .inr (1, [.ref a_ends, .int nc, .int sc, .int br, .int so, .int lo])), (h_don, .inr (0, [.ref h_dac, .int ds])), (h_dac, .inl (cI, 200, .inl dac))]) (wt' := fun u : (Int32) => [(h_x, .inr (4, [.ref h_net, .ref a_now, .ref h_don, .ref a_wri, .ref a_per, .ref a_tho, .ref a_aft])), (h_net, .inr (1, [.ref a_ends, .int nc, .int sc, .int br, .int so, .int lo])), (h_don, .inr (0, [.ref h_dac, .int ds])), (h_dac, .inl (cI, 200, .inl dac)), (h_out, .inl (cL, 1, .inr (.inl out)))]) (wc := [(h_x, .inr (4, [.ref h_net, .ref a_now, .ref h_don, .ref a_wri, .ref a_per, .ref a_tho, .ref a_aft])), (h_net, .inr (1, [.ref a_ends, .int nc, .int sc, .int br, .int so, .int lo])), (h_don, .inr (0, [.ref h_dac, .int ds])), (h_dac, .inl (cI, 200, .inl dac))]) (rv := fun u => some (.int u)) ⟨hx, hb, hml, hown, hts⟩ (kX4_times l hl0 D cI cZ cL H.size h_x a_now a_wri a_per a_tho a_aft h_net a_ends h_don h_dac nc sc br so lo ds dac p0 p1 N hq) (cwV 2 hts gL_times_X4_times rfl rfl rfl (by decide +kernel) ⟨Nat.le_of_ble_eq_true rfl, Nat.le_of_ble_eq_true rfl⟩) hP hD hS hA hKK hKS hKZ [0, 1, 2, 3] [4] [1, 2, 3, 4, 0] rfl rfl (by decide) (by decide) (fun _ => rfl) rfl (by decide) (by decide) (va_recv hK hP (ci := 4) (q0 := 0) rfl rfl) rfl hl.1 rfl (Nat.le_of_ble_eq_true rfl) dL_times_5 ⟨Nat.le_of_ble_eq_true rfl, Nat.le_of_ble_eq_true rfl⟩ (fun E ce q9 H locs hE hP hD hS h1 h2 h3 => ?_) (fun u H locs hu hP hD hS => ?_)
  · have h := hx1 E hE
    by_cases c0 : E = "java/lang/IllegalArgumentException"
    · have h := it_t h c0
      subst c0
      cases h
      refine vx_catch (own := RL) (name := "java/lang/IllegalArgumentException") hown [] ⟨0, 10, 13, 21⟩ [⟨0, 10, 17, 19⟩] htab (fun z hz => absurd hz List.not_mem_nil) (by decide) (by decide) (hts _ lkL_times_0) (va_Nw.use rfl (hKS.2 (.castable "java/lang/IllegalArgumentException" "java/lang/IllegalArgumentException") (by decide +kernel))) h1 h2 h3 ?_
      refine lv_astore (lv' := [(4, .ref q9), (0, .ref h_x), (1, .int p0), (2, .int p1), (3, .ref h_out)]) hx hb dL_times_13 hl (by decide) rfl (fun ls hl => ?_)
      refine lv_iconst (v := 1) hx hb dL_times_15 (by decide) ?_
      rw [hQQ]
      refine W.widen (k := 1) (n := 6) (Nat.le_of_ble_eq_true rfl) (Nat.le_of_ble_eq_true rfl) ?_
      exact W.iret hx hb hr (fun t ht hW => ⟨rfl, by rw [ht]; exact hP, hD, hS.F ht⟩) hS.2.2 dL_times_16
    have h := it_f h c0
    by_cases c1 : E = "java/lang/IndexOutOfBoundsException"
    · have h := it_t h c1
      subst c1
      cases h
      refine vx_catch (own := RL) (name := "java/lang/IndexOutOfBoundsException") hown [⟨0, 10, 13, 21⟩] ⟨0, 10, 17, 19⟩ [] htab (List.forall_mem_cons.mpr ⟨Or.inr ⟨by decide, ⟨"java/lang/IllegalArgumentException", hts _ lkL_times_0, hKX ("java/lang/IndexOutOfBoundsException", "java/lang/IllegalArgumentException") (by decide)⟩⟩, fun z hz => absurd hz List.not_mem_nil⟩) (by decide) (by decide) (hts _ lkL_times_1) (va_Nw.use rfl (hKS.2 (.castable "java/lang/IndexOutOfBoundsException" "java/lang/IndexOutOfBoundsException") (by decide +kernel))) h1 h2 h3 ?_
      refine lv_astore (lv' := [(4, .ref q9), (0, .ref h_x), (1, .int p0), (2, .int p1), (3, .ref h_out)]) hx hb dL_times_17 hl (by decide) rfl (fun ls hl => ?_)
      refine lv_iconst (v := 2) hx hb dL_times_19 (by decide) ?_
      rw [hQQ]
      refine W.widen (k := 1) (n := 6) (Nat.le_of_ble_eq_true rfl) (Nat.le_of_ble_eq_true rfl) ?_
      exact W.iret hx hb hr (fun t ht hW => ⟨rfl, by rw [ht]; exact hP, hD, hS.F ht⟩) hS.2.2 dL_times_20
    have h := it_f h c1
    cases h
  · obtain ⟨v, rfl⟩ : ∃ z, z = u := ⟨_, rfl⟩
    have h := hk1 _ hu
    have hP : va_P D vwCl [(h_x, .inr (4, [.ref h_net, .ref a_now, .ref h_don, .ref a_wri, .ref a_per, .ref a_tho, .ref a_aft])), (h_net, .inr (1, [.ref a_ends, .int nc, .int sc, .int br, .int so, .int lo])), (h_don, .inr (0, [.ref h_dac, .int ds])), (h_dac, .inl (cI, 200, .inl dac)), (h_out, .inl (cL, 1, .inr (.inl out)))] H := hP
    have hD : va_D A [(h_x, .inr (4, [.ref h_net, .ref a_now, .ref h_don, .ref a_wri, .ref a_per, .ref a_tho, .ref a_aft])), (h_net, .inr (1, [.ref a_ends, .int nc, .int sc, .int br, .int so, .int lo])), (h_don, .inr (0, [.ref h_dac, .int ds])), (h_dac, .inl (cI, 200, .inl dac)), (h_out, .inl (cL, 1, .inr (.inl out)))] := hD
    show W p l e _ s m _ below meth c H locs _ _ QQ (F0 m 8 ls (.int v :: [.int 0, .ref h_out]))
    refine lv_i2l (v := v.toInt64) hx hb dL_times_8 rfl ?_
    refine va_last hx hb hK hP hD hS 4 2 rfl rfl (by unfold vp_in; decide) dL_times_9 (fun H locs hP hD hS => ?_)
    have hP : va_P D vwCl [(h_x, .inr (4, [.ref h_net, .ref a_now, .ref h_don, .ref a_wri, .ref a_per, .ref a_tho, .ref a_aft])), (h_net, .inr (1, [.ref a_ends, .int nc, .int sc, .int br, .int so, .int lo])), (h_don, .inr (0, [.ref h_dac, .int ds])), (h_dac, .inl (cI, 200, .inl dac)), (h_out, .inl (cL, 1, .inr (.inl (vp_updL out (0 : Int32).toNatClampNeg v.toInt64))))] H := hP
    have hD : va_D A [(h_x, .inr (4, [.ref h_net, .ref a_now, .ref h_don, .ref a_wri, .ref a_per, .ref a_tho, .ref a_aft])), (h_net, .inr (1, [.ref a_ends, .int nc, .int sc, .int br, .int so, .int lo])), (h_don, .inr (0, [.ref h_dac, .int ds])), (h_dac, .inl (cI, 200, .inl dac)), (h_out, .inl (cL, 1, .inr (.inl (vp_updL out (0 : Int32).toNatClampNeg v.toInt64))))] := hD
    refine lv_goto (tgt := 21) hx hb dL_times_10 (by decide) ?_
    refine lv_iconst (v := 0) hx hb dL_times_21 (by decide) ?_
    cases h
    rw [hQQ]
    refine W.widen (k := 1) (n := 6) (Nat.le_of_ble_eq_true rfl) (Nat.le_of_ble_eq_true rfl) ?_
    exact W.iret hx hb hr (fun t ht hW => ⟨rfl, by rw [ht]; exact hP, hD, hS.F ht⟩) hS.2.2 dL_times_22

def fL_write (N : Nat) (nc : Int32) (sc : Int32) (br : Int32) (so : Int32) (lo : Int32) (rs : Int32) (rac : Nat → Int32) (out : Nat → Int64) (p0 : Int32) (p1 : Int32) : Option ((Int32) × (Int32) × (Nat → Int32) × (Nat → Int64)) :=
  bh3 (fX4_write N nc sc br so lo rs rac p0 p1) (fun E => (if E = "java/lang/IllegalArgumentException" then some (1, rs, rac, out) else (if E = "java/lang/IndexOutOfBoundsException" then some (2, rs, rac, out) else (if E = "java/lang/IllegalStateException" then some (3, rs, rac, out) else none)))) (fun v w0 w1 => some (0, w0, w1, vp_updL out (0 : Int32).toNatClampNeg v.toInt64))
set_option maxRecDepth 100000 in
theorem lkL_write_0 : (.classLink RL 21 "java/lang/IllegalArgumentException" : Cond) ∈ wsL_write := by decide +kernel
set_option maxRecDepth 100000 in
theorem lkL_write_1 : (.classLink RL 19 "java/lang/IndexOutOfBoundsException" : Cond) ∈ wsL_write := by decide +kernel
set_option maxRecDepth 100000 in
theorem lkL_write_2 : (.classLink RL 13 "java/lang/IllegalStateException" : Cond) ∈ wsL_write := by decide +kernel
abbrev rmL_write : Room := { frames := 8, cells := 2, slots := 12, locals := 126 }
set_option maxHeartbeats 4000000 in
set_option maxRecDepth 100000 in
theorem kL_write (l : Launch) (hl0 : l.stackTraces = false) (D : va_G) (cI cZ cL : ClassId) (sz0 : Nat) (h_x a_now a_don a_per a_tho a_aft h_net a_ends h_wri h_rac h_out : Nat) (nc : Int32) (sc : Int32) (br : Int32) (so : Int32) (lo : Int32) (rs : Int32) (rac : Nat → Int32) (out : Nat → Int64) (p0 : Int32) (p1 : Int32) (N : Nat) {r : Int32} {r_0 : Int32} {r_1 : Nat → Int32} {r_out : Nat → Int64} (h : fL_write N nc sc br so lo rs rac out p0 p1 = some (r, r_0, r_1, r_out)) : Met l yL_write wsL_write rmL_write (PH D cI cZ cL [.ref h_x, .int p0, .int p1, .ref h_out] [(h_x, .inr (4, [.ref h_net, .ref a_now, .ref a_don, .ref h_wri, .ref a_per, .ref a_tho, .ref a_aft])), (h_net, .inr (1, [.ref a_ends, .int nc, .int sc, .int br, .int so, .int lo])), (h_wri, .inr (0, [.ref h_rac, .int rs])), (h_rac, .inl (cI, 30, .inl rac)), (h_out, .inl (cL, 1, .inr (.inl out)))] sz0) (QM D (some (.int r)) (va_A [(h_x, .inr (4, [.ref h_net, .ref a_now, .ref a_don, .ref h_wri, .ref a_per, .ref a_tho, .ref a_aft])), (h_net, .inr (1, [.ref a_ends, .int nc, .int sc, .int br, .int so, .int lo])), (h_wri, .inr (0, [.ref h_rac, .int rs])), (h_rac, .inl (cI, 30, .inl rac)), (h_out, .inl (cL, 1, .inr (.inl out)))] sz0) [(h_x, .inr (4, [.ref h_net, .ref a_now, .ref a_don, .ref h_wri, .ref a_per, .ref a_tho, .ref a_aft])), (h_net, .inr (1, [.ref a_ends, .int nc, .int sc, .int br, .int so, .int lo])), (h_wri, .inr (0, [.ref h_rac, .int r_0])), (h_rac, .inl (cI, 30, .inl r_1)), (h_out, .inl (cL, 1, .inr (.inl r_out)))]) 2 12 (va_A [(h_x, .inr (4, [.ref h_net, .ref a_now, .ref a_don, .ref h_wri, .ref a_per, .ref a_tho, .ref a_aft])), (h_net, .inr (1, [.ref a_ends, .int nc, .int sc, .int br, .int so, .int lo])), (h_wri, .inr (0, [.ref h_rac, .int rs])), (h_rac, .inl (cI, 30, .inl rac)), (h_out, .inl (cL, 1, .inr (.inl out)))] sz0) := by
  refine zz_ofWH (cc := cL_write) (maxL := 5) (ret := (some .int)) (hh := [(0, 10, 13, 21), (0, 10, 17, 19), (0, 10, 21, 13)]) (by decide) rfl ?_
  intro p e s m args below meth c s₁ B hml hv
  obtain ⟨rfl, hsz, hP, hKK, hD0, hKS, hKZ, hKX⟩ := hv
  have hK := hKK.1
  have hx := B.exec
  have hb := B.bytes
  have hr := B.returns
  have hts := atoms_spec (ws := wsL_write) B.pre
  have hown : s.vm.findClass RL = some m.cls := findClass_of_methodNamed B.named
  have hlocks := B.notSynchronized
  have htab : c.exceptionTable.toList = [⟨0, 10, 13, 21⟩, ⟨0, 10, 17, 19⟩, ⟨0, 10, 21, 13⟩] := (vx_table (x := yL_write) B (hts (.codeWith yL_write cL_write 5 (some .int) [(0, 10, 13, 21), (0, 10, 17, 19), (0, 10, 21, 13)]) List.mem_cons_self)).trans rfl
  subst hsz
  have hD := hD0.self (sz := s.heap.size)
  generalize hAe : va_A [(h_x, .inr (4, [.ref h_net, .ref a_now, .ref a_don, .ref h_wri, .ref a_per, .ref a_tho, .ref a_aft])), (h_net, .inr (1, [.ref a_ends, .int nc, .int sc, .int br, .int so, .int lo])), (h_wri, .inr (0, [.ref h_rac, .int rs])), (h_rac, .inl (cI, 30, .inl rac)), (h_out, .inl (cL, 1, .inr (.inl out)))] s.heap.size = A at hD hKZ ⊢
  have hA : ∀ q : Nat, s.heap.size ≤ q → A q := fun q h => by rw [← hAe]; exact Or.inr h
  have hS : va_S A s.heap s.heap [] := va_S.rf
  have hl := lv_entry ([.ref h_x, .int p0, .int p1, .ref h_out]) (n := 5) (Nat.le_of_ble_eq_true rfl)
  rw [lg_entry_eq]
  generalize (lg_sl ([.ref h_x, .int p0, .int p1, .ref h_out]) ++ List.replicate (5 - (lg_sl ([.ref h_x, .int p0, .int p1, .ref h_out])).length) Slot.unset).toArray = ls at hl ⊢
  have hl : lv_has ls 5 [(0, .ref h_x), (1, .int p0), (2, .int p1), (3, .ref h_out)] := hl
  obtain ⟨QQ, hQQ⟩ : ∃ Z, Z = MQ below (QM D (some (.int r)) A [(h_x, .inr (4, [.ref h_net, .ref a_now, .ref a_don, .ref h_wri, .ref a_per, .ref a_tho, .ref a_aft])), (h_net, .inr (1, [.ref a_ends, .int nc, .int sc, .int br, .int so, .int lo])), (h_wri, .inr (0, [.ref h_rac, .int r_0])), (h_rac, .inl (cI, 30, .inl r_1)), (h_out, .inl (cL, 1, .inr (.inl r_out)))]) ([.ref h_x, .int p0, .int p1, .ref h_out] : List Value).toArray s 2 12 A := ⟨_, rfl⟩
  rw [← hQQ]
  obtain ⟨H, locs, hHe, hLe⟩ : ∃ (H : Heap) (locs : List Loc), H = s.heap ∧ locs = [] := ⟨_, _, rfl, rfl⟩
  have hP : va_P D vwCl [(h_x, .inr (4, [.ref h_net, .ref a_now, .ref a_don, .ref h_wri, .ref a_per, .ref a_tho, .ref a_aft])), (h_net, .inr (1, [.ref a_ends, .int nc, .int sc, .int br, .int so, .int lo])), (h_wri, .inr (0, [.ref h_rac, .int rs])), (h_rac, .inl (cI, 30, .inl rac)), (h_out, .inl (cL, 1, .inr (.inl out)))] H := by rw [hHe]; exact hP
  have hS : va_S A s.heap H locs := by rw [hHe, hLe]; exact hS
  have hW0 : ∀ QQ : State → Prop, W p l e (headSpec wsL_write rmL_write).room s m (([.ref h_x, .int p0, .int p1, .ref h_out] : List Value).toArray) below meth c H locs 0 0 QQ (F0 m 0 ls []) → W p l e (headSpec wsL_write rmL_write).room s m (([.ref h_x, .int p0, .int p1, .ref h_out] : List Value).toArray) below meth c s.heap [] 0 0 QQ (F0 m 0 ls []) := by rw [hHe, hLe]; exact fun _ h => h
  refine hW0 _ ?_
  clear hW0
  unfold fL_write at h
  refine lv_aload_n hx hb dL_write_0 rfl (lv_at hl 3 rfl) ?_
  refine lv_iconst (v := 0) hx hb dL_write_1 (by decide) ?_
  refine lv_aload_n hx hb dL_write_2 rfl (lv_at hl 0 rfl) ?_
  refine lv_iload_n hx hb dL_write_3 rfl (lv_at hl 1 rfl) ?_
  refine lv_iload_n hx hb dL_write_4 rfl (lv_at hl 2 rfl) ?_
  obtain ⟨Rr, hq, hx1, hk1⟩ := bh3_r h
  refine zz_xV (As := [.int p0, .int p1]) (wr := [(h_out, .inl (cL, 1, .inr (.inl out)))]) (w1 := fun u : (Int32) × (Int32) × (Nat → Int32) => [(h_x, .inr (4, [.ref h_net, .ref a_now, .ref a_don, .ref h_wri, .ref a_per, .ref a_tho, .ref a_aft])), (h_net, .inr (1, [.ref a_ends, .int nc, .int sc, .int br, .int so, .int lo])), (h_wri, .inr (0, [.ref h_rac, .int u.2.1])), (h_rac, .inl (cI, 30, .inl u.2.2))]) (wt' := fun u : (Int32) × (Int32) × (Nat → Int32) => [(h_x, .inr (4, [.ref h_net, .ref a_now, .ref a_don, .ref h_wri, .ref a_per, .ref a_tho, .ref a_aft])), (h_net, .inr (1, [.ref a_ends, .int nc, .int sc, .int br, .int so, .int lo])), (h_wri, .inr (0, [.ref h_rac, .int u.2.1])), (h_rac, .inl (cI, 30, .inl u.2.2)), (h_out, .inl (cL, 1, .inr (.inl out)))]) (wc := [(h_x, .inr (4, [.ref h_net, .ref a_now, .ref a_don, .ref h_wri, .ref a_per, .ref a_tho, .ref a_aft])), (h_net, .inr (1, [.ref a_ends, .int nc, .int sc, .int br, .int so, .int lo])), (h_wri, .inr (0, [.ref h_rac, .int rs])), (h_rac, .inl (cI, 30, .inl rac))]) (rv := fun u => some (.int u.1)) ⟨hx, hb, hml, hown, hts⟩ (kX4_write l hl0 D cI cZ cL H.size h_x a_now a_don a_per a_tho a_aft h_net a_ends h_wri h_rac nc sc br so lo rs rac p0 p1 N hq) (cwV 2 hts gL_write_X4_write rfl rfl rfl (by decide +kernel) ⟨Nat.le_of_ble_eq_true rfl, Nat.le_of_ble_eq_true rfl⟩) hP hD hS hA hKK hKS hKZ [0, 1, 2, 3] [4] [1, 2, 3, 4, 0] rfl rfl (by decide) (by decide) (fun _ => rfl) rfl (by decide) (by decide) (va_recv hK hP (ci := 4) (q0 := 0) rfl rfl) rfl hl.1 rfl (Nat.le_of_ble_eq_true rfl) dL_write_5 ⟨Nat.le_of_ble_eq_true rfl, Nat.le_of_ble_eq_true rfl⟩ (fun E ce q9 H locs hE hP hD hS h1 h2 h3 => ?_) (fun u H locs hu hP hD hS => ?_)
  · have h := hx1 E hE
    by_cases c0 : E = "java/lang/IllegalArgumentException"
    · have h := it_t h c0
      subst c0
      cases h
      refine vx_catch (own := RL) (name := "java/lang/IllegalArgumentException") hown [] ⟨0, 10, 13, 21⟩ [⟨0, 10, 17, 19⟩, ⟨0, 10, 21, 13⟩] htab (fun z hz => absurd hz List.not_mem_nil) (by decide) (by decide) (hts _ lkL_write_0) (va_Nw.use rfl (hKS.2 (.castable "java/lang/IllegalArgumentException" "java/lang/IllegalArgumentException") (by decide +kernel))) h1 h2 h3 ?_
      refine lv_astore (lv' := [(4, .ref q9), (0, .ref h_x), (1, .int p0), (2, .int p1), (3, .ref h_out)]) hx hb dL_write_13 hl (by decide) rfl (fun ls hl => ?_)
      refine lv_iconst (v := 1) hx hb dL_write_15 (by decide) ?_
      rw [hQQ]
      refine W.widen (k := 2) (n := 12) (Nat.le_of_ble_eq_true rfl) (Nat.le_of_ble_eq_true rfl) ?_
      exact W.iret hx hb hr (fun t ht hW => ⟨rfl, by rw [ht]; exact hP, hD, hS.F ht⟩) hS.2.2 dL_write_16
    have h := it_f h c0
    by_cases c1 : E = "java/lang/IndexOutOfBoundsException"
    · have h := it_t h c1
      subst c1
      cases h
      refine vx_catch (own := RL) (name := "java/lang/IndexOutOfBoundsException") hown [⟨0, 10, 13, 21⟩] ⟨0, 10, 17, 19⟩ [⟨0, 10, 21, 13⟩] htab (List.forall_mem_cons.mpr ⟨Or.inr ⟨by decide, ⟨"java/lang/IllegalArgumentException", hts _ lkL_write_0, hKX ("java/lang/IndexOutOfBoundsException", "java/lang/IllegalArgumentException") (by decide)⟩⟩, fun z hz => absurd hz List.not_mem_nil⟩) (by decide) (by decide) (hts _ lkL_write_1) (va_Nw.use rfl (hKS.2 (.castable "java/lang/IndexOutOfBoundsException" "java/lang/IndexOutOfBoundsException") (by decide +kernel))) h1 h2 h3 ?_
      refine lv_astore (lv' := [(4, .ref q9), (0, .ref h_x), (1, .int p0), (2, .int p1), (3, .ref h_out)]) hx hb dL_write_17 hl (by decide) rfl (fun ls hl => ?_)
      refine lv_iconst (v := 2) hx hb dL_write_19 (by decide) ?_
      rw [hQQ]
      refine W.widen (k := 2) (n := 12) (Nat.le_of_ble_eq_true rfl) (Nat.le_of_ble_eq_true rfl) ?_
      exact W.iret hx hb hr (fun t ht hW => ⟨rfl, by rw [ht]; exact hP, hD, hS.F ht⟩) hS.2.2 dL_write_20
    have h := it_f h c1
    by_cases c2 : E = "java/lang/IllegalStateException"
    · have h := it_t h c2
      subst c2
      cases h
      refine vx_catch (own := RL) (name := "java/lang/IllegalStateException") hown [⟨0, 10, 13, 21⟩, ⟨0, 10, 17, 19⟩] ⟨0, 10, 21, 13⟩ [] htab (List.forall_mem_cons.mpr ⟨Or.inr ⟨by decide, ⟨"java/lang/IllegalArgumentException", hts _ lkL_write_0, hKX ("java/lang/IllegalStateException", "java/lang/IllegalArgumentException") (by decide)⟩⟩, List.forall_mem_cons.mpr ⟨Or.inr ⟨by decide, ⟨"java/lang/IndexOutOfBoundsException", hts _ lkL_write_1, hKX ("java/lang/IllegalStateException", "java/lang/IndexOutOfBoundsException") (by decide)⟩⟩, fun z hz => absurd hz List.not_mem_nil⟩⟩) (by decide) (by decide) (hts _ lkL_write_2) (va_Nw.use rfl (hKS.2 (.castable "java/lang/IllegalStateException" "java/lang/IllegalStateException") (by decide +kernel))) h1 h2 h3 ?_
      refine lv_astore (lv' := [(4, .ref q9), (0, .ref h_x), (1, .int p0), (2, .int p1), (3, .ref h_out)]) hx hb dL_write_21 hl (by decide) rfl (fun ls hl => ?_)
      refine lv_iconst (v := 3) hx hb dL_write_23 (by decide) ?_
      rw [hQQ]
      refine W.widen (k := 2) (n := 12) (Nat.le_of_ble_eq_true rfl) (Nat.le_of_ble_eq_true rfl) ?_
      exact W.iret hx hb hr (fun t ht hW => ⟨rfl, by rw [ht]; exact hP, hD, hS.F ht⟩) hS.2.2 dL_write_24
    have h := it_f h c2
    cases h
  · obtain ⟨v, w0, w1⟩ := u
    have h := hk1 _ _ _ hu
    have hP : va_P D vwCl [(h_x, .inr (4, [.ref h_net, .ref a_now, .ref a_don, .ref h_wri, .ref a_per, .ref a_tho, .ref a_aft])), (h_net, .inr (1, [.ref a_ends, .int nc, .int sc, .int br, .int so, .int lo])), (h_wri, .inr (0, [.ref h_rac, .int w0])), (h_rac, .inl (cI, 30, .inl w1)), (h_out, .inl (cL, 1, .inr (.inl out)))] H := hP
    have hD : va_D A [(h_x, .inr (4, [.ref h_net, .ref a_now, .ref a_don, .ref h_wri, .ref a_per, .ref a_tho, .ref a_aft])), (h_net, .inr (1, [.ref a_ends, .int nc, .int sc, .int br, .int so, .int lo])), (h_wri, .inr (0, [.ref h_rac, .int w0])), (h_rac, .inl (cI, 30, .inl w1)), (h_out, .inl (cL, 1, .inr (.inl out)))] := hD
    show W p l e _ s m _ below meth c H locs _ _ QQ (F0 m 8 ls (.int v :: [.int 0, .ref h_out]))
    refine lv_i2l (v := v.toInt64) hx hb dL_write_8 rfl ?_
    refine va_last hx hb hK hP hD hS 4 2 rfl rfl (by unfold vp_in; decide) dL_write_9 (fun H locs hP hD hS => ?_)
    have hP : va_P D vwCl [(h_x, .inr (4, [.ref h_net, .ref a_now, .ref a_don, .ref h_wri, .ref a_per, .ref a_tho, .ref a_aft])), (h_net, .inr (1, [.ref a_ends, .int nc, .int sc, .int br, .int so, .int lo])), (h_wri, .inr (0, [.ref h_rac, .int w0])), (h_rac, .inl (cI, 30, .inl w1)), (h_out, .inl (cL, 1, .inr (.inl (vp_updL out (0 : Int32).toNatClampNeg v.toInt64))))] H := hP
    have hD : va_D A [(h_x, .inr (4, [.ref h_net, .ref a_now, .ref a_don, .ref h_wri, .ref a_per, .ref a_tho, .ref a_aft])), (h_net, .inr (1, [.ref a_ends, .int nc, .int sc, .int br, .int so, .int lo])), (h_wri, .inr (0, [.ref h_rac, .int w0])), (h_rac, .inl (cI, 30, .inl w1)), (h_out, .inl (cL, 1, .inr (.inl (vp_updL out (0 : Int32).toNatClampNeg v.toInt64))))] := hD
    refine lv_goto (tgt := 25) hx hb dL_write_10 (by decide) ?_
    refine lv_iconst (v := 0) hx hb dL_write_25 (by decide) ?_
    cases h
    rw [hQQ]
    refine W.widen (k := 2) (n := 12) (Nat.le_of_ble_eq_true rfl) (Nat.le_of_ble_eq_true rfl) ?_
    exact W.iret hx hb hr (fun t ht hW => ⟨rfl, by rw [ht]; exact hP, hD, hS.F ht⟩) hS.2.2 dL_write_26

def fL_carryOut (N : Nat) (nc : Int32) (sc : Int32) (br : Int32) (so : Int32) (lo : Int32) (ends : Nat → Int32) (cl : Int32) (ea : Int32) (on : Int32) (ds : Int32) (dac : Nat → Int32) (rs : Int32) (rac : Nat → Int32) (pg : Int32) (hol : Nat → Int32) (ac : Int32) (ae : Int32) (ao : Int32) (out : Nat → Int64) (p0 : Int32) : Option ((Int32) × (Int32) × (Int32) × (Int32) × (Int32) × (Nat → Int32) × (Int32) × (Nat → Int32) × (Int32) × (Int32) × (Int32) × (Nat → Int64)) :=
  bh11 (fX4_carryOut N nc sc br so lo ends cl ea on ds dac rs rac pg hol ac ae ao p0) (fun E => (if E = "java/lang/IllegalArgumentException" then some (1, cl, ea, on, ds, dac, rs, rac, ac, ae, ao, out) else (if E = "java/lang/IllegalStateException" then some (2, cl, ea, on, ds, dac, rs, rac, ac, ae, ao, out) else none))) (fun v w0 w1 w2 w3 w4 w5 w6 w7 w8 w9 => some (0, w0, w1, w2, w3, w4, w5, w6, w7, w8, w9, vp_updL out (0 : Int32).toNatClampNeg v.toInt64))
set_option maxRecDepth 100000 in
theorem lkL_carryOut_0 : (.classLink RL 21 "java/lang/IllegalArgumentException" : Cond) ∈ wsL_carryOut := by decide +kernel
set_option maxRecDepth 100000 in
theorem lkL_carryOut_1 : (.classLink RL 13 "java/lang/IllegalStateException" : Cond) ∈ wsL_carryOut := by decide +kernel
abbrev rmL_carryOut : Room := { frames := 7, cells := 1, slots := 6, locals := 164 }
set_option maxHeartbeats 4000000 in
set_option maxRecDepth 100000 in
theorem kL_carryOut (l : Launch) (hl0 : l.stackTraces = false) (D : va_G) (cI cZ cL : ClassId) (sz0 : Nat) (h_x a_tho h_net h_ends h_now h_don h_dac h_wri h_rac h_per h_hol h_aft h_out : Nat) (nc : Int32) (sc : Int32) (br : Int32) (so : Int32) (lo : Int32) (ends : Nat → Int32) (cl : Int32) (ea : Int32) (on : Int32) (ds : Int32) (dac : Nat → Int32) (rs : Int32) (rac : Nat → Int32) (pg : Int32) (hol : Nat → Int32) (ac : Int32) (ae : Int32) (ao : Int32) (out : Nat → Int64) (p0 : Int32) (N : Nat) {r : Int32} {r_0 : Int32} {r_1 : Int32} {r_2 : Int32} {r_3 : Int32} {r_4 : Nat → Int32} {r_5 : Int32} {r_6 : Nat → Int32} {r_7 : Int32} {r_8 : Int32} {r_9 : Int32} {r_out : Nat → Int64} (h : fL_carryOut N nc sc br so lo ends cl ea on ds dac rs rac pg hol ac ae ao out p0 = some (r, r_0, r_1, r_2, r_3, r_4, r_5, r_6, r_7, r_8, r_9, r_out)) : Met l yL_carryOut wsL_carryOut rmL_carryOut (PH D cI cZ cL [.ref h_x, .int p0, .ref h_out] [(h_x, .inr (4, [.ref h_net, .ref h_now, .ref h_don, .ref h_wri, .ref h_per, .ref a_tho, .ref h_aft])), (h_net, .inr (1, [.ref h_ends, .int nc, .int sc, .int br, .int so, .int lo])), (h_ends, .inl (cI, 24, .inl ends)), (h_now, .inr (3, [.int cl, .int ea, .int on])), (h_don, .inr (0, [.ref h_dac, .int ds])), (h_dac, .inl (cI, 200, .inl dac)), (h_wri, .inr (0, [.ref h_rac, .int rs])), (h_rac, .inl (cI, 30, .inl rac)), (h_per, .inr (2, [.ref h_hol, .int pg])), (h_hol, .inl (cI, 10, .inl hol)), (h_aft, .inr (3, [.int ac, .int ae, .int ao])), (h_out, .inl (cL, 1, .inr (.inl out)))] sz0) (QM D (some (.int r)) (va_A [(h_x, .inr (4, [.ref h_net, .ref h_now, .ref h_don, .ref h_wri, .ref h_per, .ref a_tho, .ref h_aft])), (h_net, .inr (1, [.ref h_ends, .int nc, .int sc, .int br, .int so, .int lo])), (h_ends, .inl (cI, 24, .inl ends)), (h_now, .inr (3, [.int cl, .int ea, .int on])), (h_don, .inr (0, [.ref h_dac, .int ds])), (h_dac, .inl (cI, 200, .inl dac)), (h_wri, .inr (0, [.ref h_rac, .int rs])), (h_rac, .inl (cI, 30, .inl rac)), (h_per, .inr (2, [.ref h_hol, .int pg])), (h_hol, .inl (cI, 10, .inl hol)), (h_aft, .inr (3, [.int ac, .int ae, .int ao])), (h_out, .inl (cL, 1, .inr (.inl out)))] sz0) [(h_x, .inr (4, [.ref h_net, .ref h_now, .ref h_don, .ref h_wri, .ref h_per, .ref a_tho, .ref h_aft])), (h_net, .inr (1, [.ref h_ends, .int nc, .int sc, .int br, .int so, .int lo])), (h_ends, .inl (cI, 24, .inl ends)), (h_now, .inr (3, [.int r_0, .int r_1, .int r_2])), (h_don, .inr (0, [.ref h_dac, .int r_3])), (h_dac, .inl (cI, 200, .inl r_4)), (h_wri, .inr (0, [.ref h_rac, .int r_5])), (h_rac, .inl (cI, 30, .inl r_6)), (h_per, .inr (2, [.ref h_hol, .int pg])), (h_hol, .inl (cI, 10, .inl hol)), (h_aft, .inr (3, [.int r_7, .int r_8, .int r_9])), (h_out, .inl (cL, 1, .inr (.inl r_out)))]) 1 6 (va_A [(h_x, .inr (4, [.ref h_net, .ref h_now, .ref h_don, .ref h_wri, .ref h_per, .ref a_tho, .ref h_aft])), (h_net, .inr (1, [.ref h_ends, .int nc, .int sc, .int br, .int so, .int lo])), (h_ends, .inl (cI, 24, .inl ends)), (h_now, .inr (3, [.int cl, .int ea, .int on])), (h_don, .inr (0, [.ref h_dac, .int ds])), (h_dac, .inl (cI, 200, .inl dac)), (h_wri, .inr (0, [.ref h_rac, .int rs])), (h_rac, .inl (cI, 30, .inl rac)), (h_per, .inr (2, [.ref h_hol, .int pg])), (h_hol, .inl (cI, 10, .inl hol)), (h_aft, .inr (3, [.int ac, .int ae, .int ao])), (h_out, .inl (cL, 1, .inr (.inl out)))] sz0) := by
  refine zz_ofWH (cc := cL_carryOut) (maxL := 4) (ret := (some .int)) (hh := [(0, 9, 12, 21), (0, 9, 15, 13)]) (by decide) rfl ?_
  intro p e s m args below meth c s₁ B hml hv
  obtain ⟨rfl, hsz, hP, hKK, hD0, hKS, hKZ, hKX⟩ := hv
  have hK := hKK.1
  have hx := B.exec
  have hb := B.bytes
  have hr := B.returns
  have hts := atoms_spec (ws := wsL_carryOut) B.pre
  have hown : s.vm.findClass RL = some m.cls := findClass_of_methodNamed B.named
  have hlocks := B.notSynchronized
  have htab : c.exceptionTable.toList = [⟨0, 9, 12, 21⟩, ⟨0, 9, 15, 13⟩] := (vx_table (x := yL_carryOut) B (hts (.codeWith yL_carryOut cL_carryOut 4 (some .int) [(0, 9, 12, 21), (0, 9, 15, 13)]) List.mem_cons_self)).trans rfl
  subst hsz
  have hD := hD0.self (sz := s.heap.size)
  generalize hAe : va_A [(h_x, .inr (4, [.ref h_net, .ref h_now, .ref h_don, .ref h_wri, .ref h_per, .ref a_tho, .ref h_aft])), (h_net, .inr (1, [.ref h_ends, .int nc, .int sc, .int br, .int so, .int lo])), (h_ends, .inl (cI, 24, .inl ends)), (h_now, .inr (3, [.int cl, .int ea, .int on])), (h_don, .inr (0, [.ref h_dac, .int ds])), (h_dac, .inl (cI, 200, .inl dac)), (h_wri, .inr (0, [.ref h_rac, .int rs])), (h_rac, .inl (cI, 30, .inl rac)), (h_per, .inr (2, [.ref h_hol, .int pg])), (h_hol, .inl (cI, 10, .inl hol)), (h_aft, .inr (3, [.int ac, .int ae, .int ao])), (h_out, .inl (cL, 1, .inr (.inl out)))] s.heap.size = A at hD hKZ ⊢
  have hA : ∀ q : Nat, s.heap.size ≤ q → A q := fun q h => by rw [← hAe]; exact Or.inr h
  have hS : va_S A s.heap s.heap [] := va_S.rf
  have hl := lv_entry ([.ref h_x, .int p0, .ref h_out]) (n := 4) (Nat.le_of_ble_eq_true rfl)
  rw [lg_entry_eq]
  generalize (lg_sl ([.ref h_x, .int p0, .ref h_out]) ++ List.replicate (4 - (lg_sl ([.ref h_x, .int p0, .ref h_out])).length) Slot.unset).toArray = ls at hl ⊢
  have hl : lv_has ls 4 [(0, .ref h_x), (1, .int p0), (2, .ref h_out)] := hl
  obtain ⟨QQ, hQQ⟩ : ∃ Z, Z = MQ below (QM D (some (.int r)) A [(h_x, .inr (4, [.ref h_net, .ref h_now, .ref h_don, .ref h_wri, .ref h_per, .ref a_tho, .ref h_aft])), (h_net, .inr (1, [.ref h_ends, .int nc, .int sc, .int br, .int so, .int lo])), (h_ends, .inl (cI, 24, .inl ends)), (h_now, .inr (3, [.int r_0, .int r_1, .int r_2])), (h_don, .inr (0, [.ref h_dac, .int r_3])), (h_dac, .inl (cI, 200, .inl r_4)), (h_wri, .inr (0, [.ref h_rac, .int r_5])), (h_rac, .inl (cI, 30, .inl r_6)), (h_per, .inr (2, [.ref h_hol, .int pg])), (h_hol, .inl (cI, 10, .inl hol)), (h_aft, .inr (3, [.int r_7, .int r_8, .int r_9])), (h_out, .inl (cL, 1, .inr (.inl r_out)))]) ([.ref h_x, .int p0, .ref h_out] : List Value).toArray s 1 6 A := ⟨_, rfl⟩
  rw [← hQQ]
  obtain ⟨H, locs, hHe, hLe⟩ : ∃ (H : Heap) (locs : List Loc), H = s.heap ∧ locs = [] := ⟨_, _, rfl, rfl⟩
  have hP : va_P D vwCl [(h_x, .inr (4, [.ref h_net, .ref h_now, .ref h_don, .ref h_wri, .ref h_per, .ref a_tho, .ref h_aft])), (h_net, .inr (1, [.ref h_ends, .int nc, .int sc, .int br, .int so, .int lo])), (h_ends, .inl (cI, 24, .inl ends)), (h_now, .inr (3, [.int cl, .int ea, .int on])), (h_don, .inr (0, [.ref h_dac, .int ds])), (h_dac, .inl (cI, 200, .inl dac)), (h_wri, .inr (0, [.ref h_rac, .int rs])), (h_rac, .inl (cI, 30, .inl rac)), (h_per, .inr (2, [.ref h_hol, .int pg])), (h_hol, .inl (cI, 10, .inl hol)), (h_aft, .inr (3, [.int ac, .int ae, .int ao])), (h_out, .inl (cL, 1, .inr (.inl out)))] H := by rw [hHe]; exact hP
  have hS : va_S A s.heap H locs := by rw [hHe, hLe]; exact hS
  have hW0 : ∀ QQ : State → Prop, W p l e (headSpec wsL_carryOut rmL_carryOut).room s m (([.ref h_x, .int p0, .ref h_out] : List Value).toArray) below meth c H locs 0 0 QQ (F0 m 0 ls []) → W p l e (headSpec wsL_carryOut rmL_carryOut).room s m (([.ref h_x, .int p0, .ref h_out] : List Value).toArray) below meth c s.heap [] 0 0 QQ (F0 m 0 ls []) := by rw [hHe, hLe]; exact fun _ h => h
  refine hW0 _ ?_
  clear hW0
  unfold fL_carryOut at h
  refine lv_aload_n hx hb dL_carryOut_0 rfl (lv_at hl 2 rfl) ?_
  refine lv_iconst (v := 0) hx hb dL_carryOut_1 (by decide) ?_
  refine lv_aload_n hx hb dL_carryOut_2 rfl (lv_at hl 0 rfl) ?_
  refine lv_iload_n hx hb dL_carryOut_3 rfl (lv_at hl 1 rfl) ?_
  obtain ⟨Rr, hq, hx1, hk1⟩ := bh11_r h
  refine zz_xV (As := [.int p0]) (wr := [(h_out, .inl (cL, 1, .inr (.inl out)))]) (w1 := fun u : (Int32) × (Int32) × (Int32) × (Int32) × (Int32) × (Nat → Int32) × (Int32) × (Nat → Int32) × (Int32) × (Int32) × (Int32) => [(h_x, .inr (4, [.ref h_net, .ref h_now, .ref h_don, .ref h_wri, .ref h_per, .ref a_tho, .ref h_aft])), (h_net, .inr (1, [.ref h_ends, .int nc, .int sc, .int br, .int so, .int lo])), (h_ends, .inl (cI, 24, .inl ends)), (h_now, .inr (3, [.int u.2.1, .int u.2.2.1, .int u.2.2.2.1])), (h_don, .inr (0, [.ref h_dac, .int u.2.2.2.2.1])), (h_dac, .inl (cI, 200, .inl u.2.2.2.2.2.1)), (h_wri, .inr (0, [.ref h_rac, .int u.2.2.2.2.2.2.1])), (h_rac, .inl (cI, 30, .inl u.2.2.2.2.2.2.2.1)), (h_per, .inr (2, [.ref h_hol, .int pg])), (h_hol, .inl (cI, 10, .inl hol)), (h_aft, .inr (3, [.int u.2.2.2.2.2.2.2.2.1, .int u.2.2.2.2.2.2.2.2.2.1, .int u.2.2.2.2.2.2.2.2.2.2]))]) (wt' := fun u : (Int32) × (Int32) × (Int32) × (Int32) × (Int32) × (Nat → Int32) × (Int32) × (Nat → Int32) × (Int32) × (Int32) × (Int32) => [(h_x, .inr (4, [.ref h_net, .ref h_now, .ref h_don, .ref h_wri, .ref h_per, .ref a_tho, .ref h_aft])), (h_net, .inr (1, [.ref h_ends, .int nc, .int sc, .int br, .int so, .int lo])), (h_ends, .inl (cI, 24, .inl ends)), (h_now, .inr (3, [.int u.2.1, .int u.2.2.1, .int u.2.2.2.1])), (h_don, .inr (0, [.ref h_dac, .int u.2.2.2.2.1])), (h_dac, .inl (cI, 200, .inl u.2.2.2.2.2.1)), (h_wri, .inr (0, [.ref h_rac, .int u.2.2.2.2.2.2.1])), (h_rac, .inl (cI, 30, .inl u.2.2.2.2.2.2.2.1)), (h_per, .inr (2, [.ref h_hol, .int pg])), (h_hol, .inl (cI, 10, .inl hol)), (h_aft, .inr (3, [.int u.2.2.2.2.2.2.2.2.1, .int u.2.2.2.2.2.2.2.2.2.1, .int u.2.2.2.2.2.2.2.2.2.2])), (h_out, .inl (cL, 1, .inr (.inl out)))]) (wc := [(h_x, .inr (4, [.ref h_net, .ref h_now, .ref h_don, .ref h_wri, .ref h_per, .ref a_tho, .ref h_aft])), (h_net, .inr (1, [.ref h_ends, .int nc, .int sc, .int br, .int so, .int lo])), (h_ends, .inl (cI, 24, .inl ends)), (h_now, .inr (3, [.int cl, .int ea, .int on])), (h_don, .inr (0, [.ref h_dac, .int ds])), (h_dac, .inl (cI, 200, .inl dac)), (h_wri, .inr (0, [.ref h_rac, .int rs])), (h_rac, .inl (cI, 30, .inl rac)), (h_per, .inr (2, [.ref h_hol, .int pg])), (h_hol, .inl (cI, 10, .inl hol)), (h_aft, .inr (3, [.int ac, .int ae, .int ao]))]) (rv := fun u => some (.int u.1)) ⟨hx, hb, hml, hown, hts⟩ (kX4_carryOut l hl0 D cI cZ cL H.size h_x a_tho h_net h_ends h_now h_don h_dac h_wri h_rac h_per h_hol h_aft nc sc br so lo ends cl ea on ds dac rs rac pg hol ac ae ao p0 N hq) (cwV 1 hts gL_carryOut_X4_carryOut rfl rfl rfl (by decide +kernel) ⟨Nat.le_of_ble_eq_true rfl, Nat.le_of_ble_eq_true rfl⟩) hP hD hS hA hKK hKS hKZ [0, 1, 2, 3, 4, 5, 6, 7, 8, 9, 10] [11] [1, 2, 3, 4, 5, 6, 7, 8, 9, 10, 11, 0] rfl rfl (by decide) (by decide) (fun _ => rfl) rfl (by decide) (by decide) (va_recv hK hP (ci := 4) (q0 := 0) rfl rfl) rfl hl.1 rfl (Nat.le_of_ble_eq_true rfl) dL_carryOut_4 ⟨Nat.le_of_ble_eq_true rfl, Nat.le_of_ble_eq_true rfl⟩ (fun E ce q9 H locs hE hP hD hS h1 h2 h3 => ?_) (fun u H locs hu hP hD hS => ?_)
  · have h := hx1 E hE
    by_cases c0 : E = "java/lang/IllegalArgumentException"
    · have h := it_t h c0
      subst c0
      cases h
      refine vx_catch (own := RL) (name := "java/lang/IllegalArgumentException") hown [] ⟨0, 9, 12, 21⟩ [⟨0, 9, 15, 13⟩] htab (fun z hz => absurd hz List.not_mem_nil) (by decide) (by decide) (hts _ lkL_carryOut_0) (va_Nw.use rfl (hKS.2 (.castable "java/lang/IllegalArgumentException" "java/lang/IllegalArgumentException") (by decide +kernel))) h1 h2 h3 ?_
      refine lv_astore_n (lv' := [(3, .ref q9), (0, .ref h_x), (1, .int p0), (2, .ref h_out)]) hx hb dL_carryOut_12 rfl hl (by decide) rfl (fun ls hl => ?_)
      refine lv_iconst (v := 1) hx hb dL_carryOut_13 (by decide) ?_
      rw [hQQ]
      refine W.widen (k := 1) (n := 6) (Nat.le_of_ble_eq_true rfl) (Nat.le_of_ble_eq_true rfl) ?_
      exact W.iret hx hb hr (fun t ht hW => ⟨rfl, by rw [ht]; exact hP, hD, hS.F ht⟩) hS.2.2 dL_carryOut_14
    have h := it_f h c0
    by_cases c1 : E = "java/lang/IllegalStateException"
    · have h := it_t h c1
      subst c1
      cases h
      refine vx_catch (own := RL) (name := "java/lang/IllegalStateException") hown [⟨0, 9, 12, 21⟩] ⟨0, 9, 15, 13⟩ [] htab (List.forall_mem_cons.mpr ⟨Or.inr ⟨by decide, ⟨"java/lang/IllegalArgumentException", hts _ lkL_carryOut_0, hKX ("java/lang/IllegalStateException", "java/lang/IllegalArgumentException") (by decide)⟩⟩, fun z hz => absurd hz List.not_mem_nil⟩) (by decide) (by decide) (hts _ lkL_carryOut_1) (va_Nw.use rfl (hKS.2 (.castable "java/lang/IllegalStateException" "java/lang/IllegalStateException") (by decide +kernel))) h1 h2 h3 ?_
      refine lv_astore_n (lv' := [(3, .ref q9), (0, .ref h_x), (1, .int p0), (2, .ref h_out)]) hx hb dL_carryOut_15 rfl hl (by decide) rfl (fun ls hl => ?_)
      refine lv_iconst (v := 2) hx hb dL_carryOut_16 (by decide) ?_
      rw [hQQ]
      refine W.widen (k := 1) (n := 6) (Nat.le_of_ble_eq_true rfl) (Nat.le_of_ble_eq_true rfl) ?_
      exact W.iret hx hb hr (fun t ht hW => ⟨rfl, by rw [ht]; exact hP, hD, hS.F ht⟩) hS.2.2 dL_carryOut_17
    have h := it_f h c1
    cases h
  · obtain ⟨v, w0, w1, w2, w3, w4, w5, w6, w7, w8, w9⟩ := u
    have h := hk1 _ _ _ _ _ _ _ _ _ _ _ hu
    have hP : va_P D vwCl [(h_x, .inr (4, [.ref h_net, .ref h_now, .ref h_don, .ref h_wri, .ref h_per, .ref a_tho, .ref h_aft])), (h_net, .inr (1, [.ref h_ends, .int nc, .int sc, .int br, .int so, .int lo])), (h_ends, .inl (cI, 24, .inl ends)), (h_now, .inr (3, [.int w0, .int w1, .int w2])), (h_don, .inr (0, [.ref h_dac, .int w3])), (h_dac, .inl (cI, 200, .inl w4)), (h_wri, .inr (0, [.ref h_rac, .int w5])), (h_rac, .inl (cI, 30, .inl w6)), (h_per, .inr (2, [.ref h_hol, .int pg])), (h_hol, .inl (cI, 10, .inl hol)), (h_aft, .inr (3, [.int w7, .int w8, .int w9])), (h_out, .inl (cL, 1, .inr (.inl out)))] H := hP
    have hD : va_D A [(h_x, .inr (4, [.ref h_net, .ref h_now, .ref h_don, .ref h_wri, .ref h_per, .ref a_tho, .ref h_aft])), (h_net, .inr (1, [.ref h_ends, .int nc, .int sc, .int br, .int so, .int lo])), (h_ends, .inl (cI, 24, .inl ends)), (h_now, .inr (3, [.int w0, .int w1, .int w2])), (h_don, .inr (0, [.ref h_dac, .int w3])), (h_dac, .inl (cI, 200, .inl w4)), (h_wri, .inr (0, [.ref h_rac, .int w5])), (h_rac, .inl (cI, 30, .inl w6)), (h_per, .inr (2, [.ref h_hol, .int pg])), (h_hol, .inl (cI, 10, .inl hol)), (h_aft, .inr (3, [.int w7, .int w8, .int w9])), (h_out, .inl (cL, 1, .inr (.inl out)))] := hD
    show W p l e _ s m _ below meth c H locs _ _ QQ (F0 m 7 ls (.int v :: [.int 0, .ref h_out]))
    refine lv_i2l (v := v.toInt64) hx hb dL_carryOut_7 rfl ?_
    refine va_last hx hb hK hP hD hS 11 2 rfl rfl (by unfold vp_in; decide) dL_carryOut_8 (fun H locs hP hD hS => ?_)
    have hP : va_P D vwCl [(h_x, .inr (4, [.ref h_net, .ref h_now, .ref h_don, .ref h_wri, .ref h_per, .ref a_tho, .ref h_aft])), (h_net, .inr (1, [.ref h_ends, .int nc, .int sc, .int br, .int so, .int lo])), (h_ends, .inl (cI, 24, .inl ends)), (h_now, .inr (3, [.int w0, .int w1, .int w2])), (h_don, .inr (0, [.ref h_dac, .int w3])), (h_dac, .inl (cI, 200, .inl w4)), (h_wri, .inr (0, [.ref h_rac, .int w5])), (h_rac, .inl (cI, 30, .inl w6)), (h_per, .inr (2, [.ref h_hol, .int pg])), (h_hol, .inl (cI, 10, .inl hol)), (h_aft, .inr (3, [.int w7, .int w8, .int w9])), (h_out, .inl (cL, 1, .inr (.inl (vp_updL out (0 : Int32).toNatClampNeg v.toInt64))))] H := hP
    have hD : va_D A [(h_x, .inr (4, [.ref h_net, .ref h_now, .ref h_don, .ref h_wri, .ref h_per, .ref a_tho, .ref h_aft])), (h_net, .inr (1, [.ref h_ends, .int nc, .int sc, .int br, .int so, .int lo])), (h_ends, .inl (cI, 24, .inl ends)), (h_now, .inr (3, [.int w0, .int w1, .int w2])), (h_don, .inr (0, [.ref h_dac, .int w3])), (h_dac, .inl (cI, 200, .inl w4)), (h_wri, .inr (0, [.ref h_rac, .int w5])), (h_rac, .inl (cI, 30, .inl w6)), (h_per, .inr (2, [.ref h_hol, .int pg])), (h_hol, .inl (cI, 10, .inl hol)), (h_aft, .inr (3, [.int w7, .int w8, .int w9])), (h_out, .inl (cL, 1, .inr (.inl (vp_updL out (0 : Int32).toNatClampNeg v.toInt64))))] := hD
    refine lv_goto (tgt := 18) hx hb dL_carryOut_9 (by decide) ?_
    refine lv_iconst (v := 0) hx hb dL_carryOut_18 (by decide) ?_
    cases h
    rw [hQQ]
    refine W.widen (k := 1) (n := 6) (Nat.le_of_ble_eq_true rfl) (Nat.le_of_ble_eq_true rfl) ?_
    exact W.iret hx hb hr (fun t ht hW => ⟨rfl, by rw [ht]; exact hP, hD, hS.F ht⟩) hS.2.2 dL_carryOut_19

def fL_permit (N : Nat) (nc : Int32) (sc : Int32) (br : Int32) (so : Int32) (lo : Int32) (ends : Nat → Int32) (cl : Int32) (ea : Int32) (on : Int32) (pg : Int32) (hol : Nat → Int32) (out : Nat → Int64) (p0 : Int32) : Option ((Int32) × (Nat → Int32) × (Int32) × (Nat → Int64)) :=
  bh3 (fX4_permit N nc sc br so lo ends cl ea on pg hol p0) (fun E => (if E = "java/lang/IllegalArgumentException" then some (1, hol, pg, out) else (if E = "java/lang/IllegalStateException" then some (2, hol, pg, out) else none))) (fun v w0 w1 => some (0, w0, w1, vp_updL out (0 : Int32).toNatClampNeg v.toInt64))
set_option maxRecDepth 100000 in
theorem lkL_permit_0 : (.classLink RL 21 "java/lang/IllegalArgumentException" : Cond) ∈ wsL_permit := by decide +kernel
set_option maxRecDepth 100000 in
theorem lkL_permit_1 : (.classLink RL 13 "java/lang/IllegalStateException" : Cond) ∈ wsL_permit := by decide +kernel
abbrev rmL_permit : Room := { frames := 7, cells := 1, slots := 6, locals := 112 }
set_option maxHeartbeats 4000000 in
set_option maxRecDepth 100000 in
theorem kL_permit (l : Launch) (hl0 : l.stackTraces = false) (D : va_G) (cI cZ cL : ClassId) (sz0 : Nat) (h_x a_don a_wri a_tho a_aft h_net h_ends h_now h_per h_hol h_out : Nat) (nc : Int32) (sc : Int32) (br : Int32) (so : Int32) (lo : Int32) (ends : Nat → Int32) (cl : Int32) (ea : Int32) (on : Int32) (pg : Int32) (hol : Nat → Int32) (out : Nat → Int64) (p0 : Int32) (N : Nat) {r : Int32} {r_0 : Nat → Int32} {r_1 : Int32} {r_out : Nat → Int64} (h : fL_permit N nc sc br so lo ends cl ea on pg hol out p0 = some (r, r_0, r_1, r_out)) : Met l yL_permit wsL_permit rmL_permit (PH D cI cZ cL [.ref h_x, .int p0, .ref h_out] [(h_x, .inr (4, [.ref h_net, .ref h_now, .ref a_don, .ref a_wri, .ref h_per, .ref a_tho, .ref a_aft])), (h_net, .inr (1, [.ref h_ends, .int nc, .int sc, .int br, .int so, .int lo])), (h_ends, .inl (cI, 24, .inl ends)), (h_now, .inr (3, [.int cl, .int ea, .int on])), (h_per, .inr (2, [.ref h_hol, .int pg])), (h_hol, .inl (cI, 10, .inl hol)), (h_out, .inl (cL, 1, .inr (.inl out)))] sz0) (QM D (some (.int r)) (va_A [(h_x, .inr (4, [.ref h_net, .ref h_now, .ref a_don, .ref a_wri, .ref h_per, .ref a_tho, .ref a_aft])), (h_net, .inr (1, [.ref h_ends, .int nc, .int sc, .int br, .int so, .int lo])), (h_ends, .inl (cI, 24, .inl ends)), (h_now, .inr (3, [.int cl, .int ea, .int on])), (h_per, .inr (2, [.ref h_hol, .int pg])), (h_hol, .inl (cI, 10, .inl hol)), (h_out, .inl (cL, 1, .inr (.inl out)))] sz0) [(h_x, .inr (4, [.ref h_net, .ref h_now, .ref a_don, .ref a_wri, .ref h_per, .ref a_tho, .ref a_aft])), (h_net, .inr (1, [.ref h_ends, .int nc, .int sc, .int br, .int so, .int lo])), (h_ends, .inl (cI, 24, .inl ends)), (h_now, .inr (3, [.int cl, .int ea, .int on])), (h_per, .inr (2, [.ref h_hol, .int r_1])), (h_hol, .inl (cI, 10, .inl r_0)), (h_out, .inl (cL, 1, .inr (.inl r_out)))]) 1 6 (va_A [(h_x, .inr (4, [.ref h_net, .ref h_now, .ref a_don, .ref a_wri, .ref h_per, .ref a_tho, .ref a_aft])), (h_net, .inr (1, [.ref h_ends, .int nc, .int sc, .int br, .int so, .int lo])), (h_ends, .inl (cI, 24, .inl ends)), (h_now, .inr (3, [.int cl, .int ea, .int on])), (h_per, .inr (2, [.ref h_hol, .int pg])), (h_hol, .inl (cI, 10, .inl hol)), (h_out, .inl (cL, 1, .inr (.inl out)))] sz0) := by
  refine zz_ofWH (cc := cL_permit) (maxL := 4) (ret := (some .int)) (hh := [(0, 9, 12, 21), (0, 9, 15, 13)]) (by decide) rfl ?_
  intro p e s m args below meth c s₁ B hml hv
  obtain ⟨rfl, hsz, hP, hKK, hD0, hKS, hKZ, hKX⟩ := hv
  have hK := hKK.1
  have hx := B.exec
  have hb := B.bytes
  have hr := B.returns
  have hts := atoms_spec (ws := wsL_permit) B.pre
  have hown : s.vm.findClass RL = some m.cls := findClass_of_methodNamed B.named
  have hlocks := B.notSynchronized
  have htab : c.exceptionTable.toList = [⟨0, 9, 12, 21⟩, ⟨0, 9, 15, 13⟩] := (vx_table (x := yL_permit) B (hts (.codeWith yL_permit cL_permit 4 (some .int) [(0, 9, 12, 21), (0, 9, 15, 13)]) List.mem_cons_self)).trans rfl
  subst hsz
  have hD := hD0.self (sz := s.heap.size)
  generalize hAe : va_A [(h_x, .inr (4, [.ref h_net, .ref h_now, .ref a_don, .ref a_wri, .ref h_per, .ref a_tho, .ref a_aft])), (h_net, .inr (1, [.ref h_ends, .int nc, .int sc, .int br, .int so, .int lo])), (h_ends, .inl (cI, 24, .inl ends)), (h_now, .inr (3, [.int cl, .int ea, .int on])), (h_per, .inr (2, [.ref h_hol, .int pg])), (h_hol, .inl (cI, 10, .inl hol)), (h_out, .inl (cL, 1, .inr (.inl out)))] s.heap.size = A at hD hKZ ⊢
  have hA : ∀ q : Nat, s.heap.size ≤ q → A q := fun q h => by rw [← hAe]; exact Or.inr h
  have hS : va_S A s.heap s.heap [] := va_S.rf
  have hl := lv_entry ([.ref h_x, .int p0, .ref h_out]) (n := 4) (Nat.le_of_ble_eq_true rfl)
  rw [lg_entry_eq]
  generalize (lg_sl ([.ref h_x, .int p0, .ref h_out]) ++ List.replicate (4 - (lg_sl ([.ref h_x, .int p0, .ref h_out])).length) Slot.unset).toArray = ls at hl ⊢
  have hl : lv_has ls 4 [(0, .ref h_x), (1, .int p0), (2, .ref h_out)] := hl
  obtain ⟨QQ, hQQ⟩ : ∃ Z, Z = MQ below (QM D (some (.int r)) A [(h_x, .inr (4, [.ref h_net, .ref h_now, .ref a_don, .ref a_wri, .ref h_per, .ref a_tho, .ref a_aft])), (h_net, .inr (1, [.ref h_ends, .int nc, .int sc, .int br, .int so, .int lo])), (h_ends, .inl (cI, 24, .inl ends)), (h_now, .inr (3, [.int cl, .int ea, .int on])), (h_per, .inr (2, [.ref h_hol, .int r_1])), (h_hol, .inl (cI, 10, .inl r_0)), (h_out, .inl (cL, 1, .inr (.inl r_out)))]) ([.ref h_x, .int p0, .ref h_out] : List Value).toArray s 1 6 A := ⟨_, rfl⟩
  rw [← hQQ]
  obtain ⟨H, locs, hHe, hLe⟩ : ∃ (H : Heap) (locs : List Loc), H = s.heap ∧ locs = [] := ⟨_, _, rfl, rfl⟩
  have hP : va_P D vwCl [(h_x, .inr (4, [.ref h_net, .ref h_now, .ref a_don, .ref a_wri, .ref h_per, .ref a_tho, .ref a_aft])), (h_net, .inr (1, [.ref h_ends, .int nc, .int sc, .int br, .int so, .int lo])), (h_ends, .inl (cI, 24, .inl ends)), (h_now, .inr (3, [.int cl, .int ea, .int on])), (h_per, .inr (2, [.ref h_hol, .int pg])), (h_hol, .inl (cI, 10, .inl hol)), (h_out, .inl (cL, 1, .inr (.inl out)))] H := by rw [hHe]; exact hP
  have hS : va_S A s.heap H locs := by rw [hHe, hLe]; exact hS
  have hW0 : ∀ QQ : State → Prop, W p l e (headSpec wsL_permit rmL_permit).room s m (([.ref h_x, .int p0, .ref h_out] : List Value).toArray) below meth c H locs 0 0 QQ (F0 m 0 ls []) → W p l e (headSpec wsL_permit rmL_permit).room s m (([.ref h_x, .int p0, .ref h_out] : List Value).toArray) below meth c s.heap [] 0 0 QQ (F0 m 0 ls []) := by rw [hHe, hLe]; exact fun _ h => h
  refine hW0 _ ?_
  clear hW0
  unfold fL_permit at h
  refine lv_aload_n hx hb dL_permit_0 rfl (lv_at hl 2 rfl) ?_
  refine lv_iconst (v := 0) hx hb dL_permit_1 (by decide) ?_
  refine lv_aload_n hx hb dL_permit_2 rfl (lv_at hl 0 rfl) ?_
  refine lv_iload_n hx hb dL_permit_3 rfl (lv_at hl 1 rfl) ?_
  obtain ⟨Rr, hq, hx1, hk1⟩ := bh3_r h
  refine zz_xV (As := [.int p0]) (wr := [(h_out, .inl (cL, 1, .inr (.inl out)))]) (w1 := fun u : (Int32) × (Nat → Int32) × (Int32) => [(h_x, .inr (4, [.ref h_net, .ref h_now, .ref a_don, .ref a_wri, .ref h_per, .ref a_tho, .ref a_aft])), (h_net, .inr (1, [.ref h_ends, .int nc, .int sc, .int br, .int so, .int lo])), (h_ends, .inl (cI, 24, .inl ends)), (h_now, .inr (3, [.int cl, .int ea, .int on])), (h_per, .inr (2, [.ref h_hol, .int u.2.2])), (h_hol, .inl (cI, 10, .inl u.2.1))]) (wt' := fun u : (Int32) × (Nat → Int32) × (Int32) => [(h_x, .inr (4, [.ref h_net, .ref h_now, .ref a_don, .ref a_wri, .ref h_per, .ref a_tho, .ref a_aft])), (h_net, .inr (1, [.ref h_ends, .int nc, .int sc, .int br, .int so, .int lo])), (h_ends, .inl (cI, 24, .inl ends)), (h_now, .inr (3, [.int cl, .int ea, .int on])), (h_per, .inr (2, [.ref h_hol, .int u.2.2])), (h_hol, .inl (cI, 10, .inl u.2.1)), (h_out, .inl (cL, 1, .inr (.inl out)))]) (wc := [(h_x, .inr (4, [.ref h_net, .ref h_now, .ref a_don, .ref a_wri, .ref h_per, .ref a_tho, .ref a_aft])), (h_net, .inr (1, [.ref h_ends, .int nc, .int sc, .int br, .int so, .int lo])), (h_ends, .inl (cI, 24, .inl ends)), (h_now, .inr (3, [.int cl, .int ea, .int on])), (h_per, .inr (2, [.ref h_hol, .int pg])), (h_hol, .inl (cI, 10, .inl hol))]) (rv := fun u => some (.int u.1)) ⟨hx, hb, hml, hown, hts⟩ (kX4_permit l hl0 D cI cZ cL H.size h_x a_don a_wri a_tho a_aft h_net h_ends h_now h_per h_hol nc sc br so lo ends cl ea on pg hol p0 N hq) (cwV 1 hts gL_permit_X4_permit rfl rfl rfl (by decide +kernel) ⟨Nat.le_of_ble_eq_true rfl, Nat.le_of_ble_eq_true rfl⟩) hP hD hS hA hKK hKS hKZ [0, 1, 2, 3, 4, 5] [6] [1, 2, 3, 4, 5, 6, 0] rfl rfl (by decide) (by decide) (fun _ => rfl) rfl (by decide) (by decide) (va_recv hK hP (ci := 4) (q0 := 0) rfl rfl) rfl hl.1 rfl (Nat.le_of_ble_eq_true rfl) dL_permit_4 ⟨Nat.le_of_ble_eq_true rfl, Nat.le_of_ble_eq_true rfl⟩ (fun E ce q9 H locs hE hP hD hS h1 h2 h3 => ?_) (fun u H locs hu hP hD hS => ?_)
  · have h := hx1 E hE
    by_cases c0 : E = "java/lang/IllegalArgumentException"
    · have h := it_t h c0
      subst c0
      cases h
      refine vx_catch (own := RL) (name := "java/lang/IllegalArgumentException") hown [] ⟨0, 9, 12, 21⟩ [⟨0, 9, 15, 13⟩] htab (fun z hz => absurd hz List.not_mem_nil) (by decide) (by decide) (hts _ lkL_permit_0) (va_Nw.use rfl (hKS.2 (.castable "java/lang/IllegalArgumentException" "java/lang/IllegalArgumentException") (by decide +kernel))) h1 h2 h3 ?_
      refine lv_astore_n (lv' := [(3, .ref q9), (0, .ref h_x), (1, .int p0), (2, .ref h_out)]) hx hb dL_permit_12 rfl hl (by decide) rfl (fun ls hl => ?_)
      refine lv_iconst (v := 1) hx hb dL_permit_13 (by decide) ?_
      rw [hQQ]
      refine W.widen (k := 1) (n := 6) (Nat.le_of_ble_eq_true rfl) (Nat.le_of_ble_eq_true rfl) ?_
      exact W.iret hx hb hr (fun t ht hW => ⟨rfl, by rw [ht]; exact hP, hD, hS.F ht⟩) hS.2.2 dL_permit_14
    have h := it_f h c0
    by_cases c1 : E = "java/lang/IllegalStateException"
    · have h := it_t h c1
      subst c1
      cases h
      refine vx_catch (own := RL) (name := "java/lang/IllegalStateException") hown [⟨0, 9, 12, 21⟩] ⟨0, 9, 15, 13⟩ [] htab (List.forall_mem_cons.mpr ⟨Or.inr ⟨by decide, ⟨"java/lang/IllegalArgumentException", hts _ lkL_permit_0, hKX ("java/lang/IllegalStateException", "java/lang/IllegalArgumentException") (by decide)⟩⟩, fun z hz => absurd hz List.not_mem_nil⟩) (by decide) (by decide) (hts _ lkL_permit_1) (va_Nw.use rfl (hKS.2 (.castable "java/lang/IllegalStateException" "java/lang/IllegalStateException") (by decide +kernel))) h1 h2 h3 ?_
      refine lv_astore_n (lv' := [(3, .ref q9), (0, .ref h_x), (1, .int p0), (2, .ref h_out)]) hx hb dL_permit_15 rfl hl (by decide) rfl (fun ls hl => ?_)
      refine lv_iconst (v := 2) hx hb dL_permit_16 (by decide) ?_
      rw [hQQ]
      refine W.widen (k := 1) (n := 6) (Nat.le_of_ble_eq_true rfl) (Nat.le_of_ble_eq_true rfl) ?_
      exact W.iret hx hb hr (fun t ht hW => ⟨rfl, by rw [ht]; exact hP, hD, hS.F ht⟩) hS.2.2 dL_permit_17
    have h := it_f h c1
    cases h
  · obtain ⟨v, w0, w1⟩ := u
    have h := hk1 _ _ _ hu
    have hP : va_P D vwCl [(h_x, .inr (4, [.ref h_net, .ref h_now, .ref a_don, .ref a_wri, .ref h_per, .ref a_tho, .ref a_aft])), (h_net, .inr (1, [.ref h_ends, .int nc, .int sc, .int br, .int so, .int lo])), (h_ends, .inl (cI, 24, .inl ends)), (h_now, .inr (3, [.int cl, .int ea, .int on])), (h_per, .inr (2, [.ref h_hol, .int w1])), (h_hol, .inl (cI, 10, .inl w0)), (h_out, .inl (cL, 1, .inr (.inl out)))] H := hP
    have hD : va_D A [(h_x, .inr (4, [.ref h_net, .ref h_now, .ref a_don, .ref a_wri, .ref h_per, .ref a_tho, .ref a_aft])), (h_net, .inr (1, [.ref h_ends, .int nc, .int sc, .int br, .int so, .int lo])), (h_ends, .inl (cI, 24, .inl ends)), (h_now, .inr (3, [.int cl, .int ea, .int on])), (h_per, .inr (2, [.ref h_hol, .int w1])), (h_hol, .inl (cI, 10, .inl w0)), (h_out, .inl (cL, 1, .inr (.inl out)))] := hD
    show W p l e _ s m _ below meth c H locs _ _ QQ (F0 m 7 ls (.int v :: [.int 0, .ref h_out]))
    refine lv_i2l (v := v.toInt64) hx hb dL_permit_7 rfl ?_
    refine va_last hx hb hK hP hD hS 6 2 rfl rfl (by unfold vp_in; decide) dL_permit_8 (fun H locs hP hD hS => ?_)
    have hP : va_P D vwCl [(h_x, .inr (4, [.ref h_net, .ref h_now, .ref a_don, .ref a_wri, .ref h_per, .ref a_tho, .ref a_aft])), (h_net, .inr (1, [.ref h_ends, .int nc, .int sc, .int br, .int so, .int lo])), (h_ends, .inl (cI, 24, .inl ends)), (h_now, .inr (3, [.int cl, .int ea, .int on])), (h_per, .inr (2, [.ref h_hol, .int w1])), (h_hol, .inl (cI, 10, .inl w0)), (h_out, .inl (cL, 1, .inr (.inl (vp_updL out (0 : Int32).toNatClampNeg v.toInt64))))] H := hP
    have hD : va_D A [(h_x, .inr (4, [.ref h_net, .ref h_now, .ref a_don, .ref a_wri, .ref h_per, .ref a_tho, .ref a_aft])), (h_net, .inr (1, [.ref h_ends, .int nc, .int sc, .int br, .int so, .int lo])), (h_ends, .inl (cI, 24, .inl ends)), (h_now, .inr (3, [.int cl, .int ea, .int on])), (h_per, .inr (2, [.ref h_hol, .int w1])), (h_hol, .inl (cI, 10, .inl w0)), (h_out, .inl (cL, 1, .inr (.inl (vp_updL out (0 : Int32).toNatClampNeg v.toInt64))))] := hD
    refine lv_goto (tgt := 18) hx hb dL_permit_9 (by decide) ?_
    refine lv_iconst (v := 0) hx hb dL_permit_18 (by decide) ?_
    cases h
    rw [hQQ]
    refine W.widen (k := 1) (n := 6) (Nat.le_of_ble_eq_true rfl) (Nat.le_of_ble_eq_true rfl) ?_
    exact W.iret hx hb hr (fun t ht hW => ⟨rfl, by rw [ht]; exact hP, hD, hS.F ht⟩) hS.2.2 dL_permit_19

def fL_handBack (N : Nat) (pg : Int32) (hol : Nat → Int32) (out : Nat → Int64) (p0 : Int32) : Option ((Int32) × (Nat → Int32) × (Nat → Int64)) :=
  bh2 (fX4_handBack N pg hol p0) (fun E => (if E = "java/lang/IndexOutOfBoundsException" then some (1, hol, out) else (if E = "java/lang/IllegalStateException" then some (2, hol, out) else none))) (fun v w0 => some (0, w0, vp_updL out (0 : Int32).toNatClampNeg v.toInt64))
set_option maxRecDepth 100000 in
theorem lkL_handBack_0 : (.classLink RL 19 "java/lang/IndexOutOfBoundsException" : Cond) ∈ wsL_handBack := by decide +kernel
set_option maxRecDepth 100000 in
theorem lkL_handBack_1 : (.classLink RL 13 "java/lang/IllegalStateException" : Cond) ∈ wsL_handBack := by decide +kernel
abbrev rmL_handBack : Room := { frames := 7, cells := 1, slots := 6, locals := 103 }
set_option maxHeartbeats 4000000 in
set_option maxRecDepth 100000 in
theorem kL_handBack (l : Launch) (hl0 : l.stackTraces = false) (D : va_G) (cI cZ cL : ClassId) (sz0 : Nat) (h_x a_net a_now a_don a_wri a_tho a_aft h_per h_hol h_out : Nat) (pg : Int32) (hol : Nat → Int32) (out : Nat → Int64) (p0 : Int32) (N : Nat) {r : Int32} {r_0 : Nat → Int32} {r_out : Nat → Int64} (h : fL_handBack N pg hol out p0 = some (r, r_0, r_out)) : Met l yL_handBack wsL_handBack rmL_handBack (PH D cI cZ cL [.ref h_x, .int p0, .ref h_out] [(h_x, .inr (4, [.ref a_net, .ref a_now, .ref a_don, .ref a_wri, .ref h_per, .ref a_tho, .ref a_aft])), (h_per, .inr (2, [.ref h_hol, .int pg])), (h_hol, .inl (cI, 10, .inl hol)), (h_out, .inl (cL, 1, .inr (.inl out)))] sz0) (QM D (some (.int r)) (va_A [(h_x, .inr (4, [.ref a_net, .ref a_now, .ref a_don, .ref a_wri, .ref h_per, .ref a_tho, .ref a_aft])), (h_per, .inr (2, [.ref h_hol, .int pg])), (h_hol, .inl (cI, 10, .inl hol)), (h_out, .inl (cL, 1, .inr (.inl out)))] sz0) [(h_x, .inr (4, [.ref a_net, .ref a_now, .ref a_don, .ref a_wri, .ref h_per, .ref a_tho, .ref a_aft])), (h_per, .inr (2, [.ref h_hol, .int pg])), (h_hol, .inl (cI, 10, .inl r_0)), (h_out, .inl (cL, 1, .inr (.inl r_out)))]) 1 6 (va_A [(h_x, .inr (4, [.ref a_net, .ref a_now, .ref a_don, .ref a_wri, .ref h_per, .ref a_tho, .ref a_aft])), (h_per, .inr (2, [.ref h_hol, .int pg])), (h_hol, .inl (cI, 10, .inl hol)), (h_out, .inl (cL, 1, .inr (.inl out)))] sz0) := by
  refine zz_ofWH (cc := cL_handBack) (maxL := 4) (ret := (some .int)) (hh := [(0, 9, 12, 19), (0, 9, 15, 13)]) (by decide) rfl ?_
  intro p e s m args below meth c s₁ B hml hv
  obtain ⟨rfl, hsz, hP, hKK, hD0, hKS, hKZ, hKX⟩ := hv
  have hK := hKK.1
  have hx := B.exec
  have hb := B.bytes
  have hr := B.returns
  have hts := atoms_spec (ws := wsL_handBack) B.pre
  have hown : s.vm.findClass RL = some m.cls := findClass_of_methodNamed B.named
  have hlocks := B.notSynchronized
  have htab : c.exceptionTable.toList = [⟨0, 9, 12, 19⟩, ⟨0, 9, 15, 13⟩] := (vx_table (x := yL_handBack) B (hts (.codeWith yL_handBack cL_handBack 4 (some .int) [(0, 9, 12, 19), (0, 9, 15, 13)]) List.mem_cons_self)).trans rfl
  subst hsz
  have hD := hD0.self (sz := s.heap.size)
  generalize hAe : va_A [(h_x, .inr (4, [.ref a_net, .ref a_now, .ref a_don, .ref a_wri, .ref h_per, .ref a_tho, .ref a_aft])), (h_per, .inr (2, [.ref h_hol, .int pg])), (h_hol, .inl (cI, 10, .inl hol)), (h_out, .inl (cL, 1, .inr (.inl out)))] s.heap.size = A at hD hKZ ⊢
  have hA : ∀ q : Nat, s.heap.size ≤ q → A q := fun q h => by rw [← hAe]; exact Or.inr h
  have hS : va_S A s.heap s.heap [] := va_S.rf
  have hl := lv_entry ([.ref h_x, .int p0, .ref h_out]) (n := 4) (Nat.le_of_ble_eq_true rfl)
  rw [lg_entry_eq]
  generalize (lg_sl ([.ref h_x, .int p0, .ref h_out]) ++ List.replicate (4 - (lg_sl ([.ref h_x, .int p0, .ref h_out])).length) Slot.unset).toArray = ls at hl ⊢
  have hl : lv_has ls 4 [(0, .ref h_x), (1, .int p0), (2, .ref h_out)] := hl
  obtain ⟨QQ, hQQ⟩ : ∃ Z, Z = MQ below (QM D (some (.int r)) A [(h_x, .inr (4, [.ref a_net, .ref a_now, .ref a_don, .ref a_wri, .ref h_per, .ref a_tho, .ref a_aft])), (h_per, .inr (2, [.ref h_hol, .int pg])), (h_hol, .inl (cI, 10, .inl r_0)), (h_out, .inl (cL, 1, .inr (.inl r_out)))]) ([.ref h_x, .int p0, .ref h_out] : List Value).toArray s 1 6 A := ⟨_, rfl⟩
  rw [← hQQ]
  obtain ⟨H, locs, hHe, hLe⟩ : ∃ (H : Heap) (locs : List Loc), H = s.heap ∧ locs = [] := ⟨_, _, rfl, rfl⟩
  have hP : va_P D vwCl [(h_x, .inr (4, [.ref a_net, .ref a_now, .ref a_don, .ref a_wri, .ref h_per, .ref a_tho, .ref a_aft])), (h_per, .inr (2, [.ref h_hol, .int pg])), (h_hol, .inl (cI, 10, .inl hol)), (h_out, .inl (cL, 1, .inr (.inl out)))] H := by rw [hHe]; exact hP
  have hS : va_S A s.heap H locs := by rw [hHe, hLe]; exact hS
  have hW0 : ∀ QQ : State → Prop, W p l e (headSpec wsL_handBack rmL_handBack).room s m (([.ref h_x, .int p0, .ref h_out] : List Value).toArray) below meth c H locs 0 0 QQ (F0 m 0 ls []) → W p l e (headSpec wsL_handBack rmL_handBack).room s m (([.ref h_x, .int p0, .ref h_out] : List Value).toArray) below meth c s.heap [] 0 0 QQ (F0 m 0 ls []) := by rw [hHe, hLe]; exact fun _ h => h
  refine hW0 _ ?_
  clear hW0
  unfold fL_handBack at h
  refine lv_aload_n hx hb dL_handBack_0 rfl (lv_at hl 2 rfl) ?_
  refine lv_iconst (v := 0) hx hb dL_handBack_1 (by decide) ?_
  refine lv_aload_n hx hb dL_handBack_2 rfl (lv_at hl 0 rfl) ?_
  refine lv_iload_n hx hb dL_handBack_3 rfl (lv_at hl 1 rfl) ?_
  obtain ⟨Rr, hq, hx1, hk1⟩ := bh2_r h
  refine zz_xV (As := [.int p0]) (wr := [(h_out, .inl (cL, 1, .inr (.inl out)))]) (w1 := fun u : (Int32) × (Nat → Int32) => [(h_x, .inr (4, [.ref a_net, .ref a_now, .ref a_don, .ref a_wri, .ref h_per, .ref a_tho, .ref a_aft])), (h_per, .inr (2, [.ref h_hol, .int pg])), (h_hol, .inl (cI, 10, .inl u.2))]) (wt' := fun u : (Int32) × (Nat → Int32) => [(h_x, .inr (4, [.ref a_net, .ref a_now, .ref a_don, .ref a_wri, .ref h_per, .ref a_tho, .ref a_aft])), (h_per, .inr (2, [.ref h_hol, .int pg])), (h_hol, .inl (cI, 10, .inl u.2)), (h_out, .inl (cL, 1, .inr (.inl out)))]) (wc := [(h_x, .inr (4, [.ref a_net, .ref a_now, .ref a_don, .ref a_wri, .ref h_per, .ref a_tho, .ref a_aft])), (h_per, .inr (2, [.ref h_hol, .int pg])), (h_hol, .inl (cI, 10, .inl hol))]) (rv := fun u => some (.int u.1)) ⟨hx, hb, hml, hown, hts⟩ (kX4_handBack l hl0 D cI cZ cL H.size h_x a_net a_now a_don a_wri a_tho a_aft h_per h_hol pg hol p0 N hq) (cwV 1 hts gL_handBack_X4_handBack rfl rfl rfl (by decide +kernel) ⟨Nat.le_of_ble_eq_true rfl, Nat.le_of_ble_eq_true rfl⟩) hP hD hS hA hKK hKS hKZ [0, 1, 2] [3] [1, 2, 3, 0] rfl rfl (by decide) (by decide) (fun _ => rfl) rfl (by decide) (by decide) (va_recv hK hP (ci := 4) (q0 := 0) rfl rfl) rfl hl.1 rfl (Nat.le_of_ble_eq_true rfl) dL_handBack_4 ⟨Nat.le_of_ble_eq_true rfl, Nat.le_of_ble_eq_true rfl⟩ (fun E ce q9 H locs hE hP hD hS h1 h2 h3 => ?_) (fun u H locs hu hP hD hS => ?_)
  · have h := hx1 E hE
    by_cases c0 : E = "java/lang/IndexOutOfBoundsException"
    · have h := it_t h c0
      subst c0
      cases h
      refine vx_catch (own := RL) (name := "java/lang/IndexOutOfBoundsException") hown [] ⟨0, 9, 12, 19⟩ [⟨0, 9, 15, 13⟩] htab (fun z hz => absurd hz List.not_mem_nil) (by decide) (by decide) (hts _ lkL_handBack_0) (va_Nw.use rfl (hKS.2 (.castable "java/lang/IndexOutOfBoundsException" "java/lang/IndexOutOfBoundsException") (by decide +kernel))) h1 h2 h3 ?_
      refine lv_astore_n (lv' := [(3, .ref q9), (0, .ref h_x), (1, .int p0), (2, .ref h_out)]) hx hb dL_handBack_12 rfl hl (by decide) rfl (fun ls hl => ?_)
      refine lv_iconst (v := 1) hx hb dL_handBack_13 (by decide) ?_
      rw [hQQ]
      refine W.widen (k := 1) (n := 6) (Nat.le_of_ble_eq_true rfl) (Nat.le_of_ble_eq_true rfl) ?_
      exact W.iret hx hb hr (fun t ht hW => ⟨rfl, by rw [ht]; exact hP, hD, hS.F ht⟩) hS.2.2 dL_handBack_14
    have h := it_f h c0
    by_cases c1 : E = "java/lang/IllegalStateException"
    · have h := it_t h c1
      subst c1
      cases h
      refine vx_catch (own := RL) (name := "java/lang/IllegalStateException") hown [⟨0, 9, 12, 19⟩] ⟨0, 9, 15, 13⟩ [] htab (List.forall_mem_cons.mpr ⟨Or.inr ⟨by decide, ⟨"java/lang/IndexOutOfBoundsException", hts _ lkL_handBack_0, hKX ("java/lang/IllegalStateException", "java/lang/IndexOutOfBoundsException") (by decide)⟩⟩, fun z hz => absurd hz List.not_mem_nil⟩) (by decide) (by decide) (hts _ lkL_handBack_1) (va_Nw.use rfl (hKS.2 (.castable "java/lang/IllegalStateException" "java/lang/IllegalStateException") (by decide +kernel))) h1 h2 h3 ?_
      refine lv_astore_n (lv' := [(3, .ref q9), (0, .ref h_x), (1, .int p0), (2, .ref h_out)]) hx hb dL_handBack_15 rfl hl (by decide) rfl (fun ls hl => ?_)
      refine lv_iconst (v := 2) hx hb dL_handBack_16 (by decide) ?_
      rw [hQQ]
      refine W.widen (k := 1) (n := 6) (Nat.le_of_ble_eq_true rfl) (Nat.le_of_ble_eq_true rfl) ?_
      exact W.iret hx hb hr (fun t ht hW => ⟨rfl, by rw [ht]; exact hP, hD, hS.F ht⟩) hS.2.2 dL_handBack_17
    have h := it_f h c1
    cases h
  · obtain ⟨v, w0⟩ := u
    have h := hk1 _ _ hu
    have hP : va_P D vwCl [(h_x, .inr (4, [.ref a_net, .ref a_now, .ref a_don, .ref a_wri, .ref h_per, .ref a_tho, .ref a_aft])), (h_per, .inr (2, [.ref h_hol, .int pg])), (h_hol, .inl (cI, 10, .inl w0)), (h_out, .inl (cL, 1, .inr (.inl out)))] H := hP
    have hD : va_D A [(h_x, .inr (4, [.ref a_net, .ref a_now, .ref a_don, .ref a_wri, .ref h_per, .ref a_tho, .ref a_aft])), (h_per, .inr (2, [.ref h_hol, .int pg])), (h_hol, .inl (cI, 10, .inl w0)), (h_out, .inl (cL, 1, .inr (.inl out)))] := hD
    show W p l e _ s m _ below meth c H locs _ _ QQ (F0 m 7 ls (.int v :: [.int 0, .ref h_out]))
    refine lv_i2l (v := v.toInt64) hx hb dL_handBack_7 rfl ?_
    refine va_last hx hb hK hP hD hS 3 2 rfl rfl (by unfold vp_in; decide) dL_handBack_8 (fun H locs hP hD hS => ?_)
    have hP : va_P D vwCl [(h_x, .inr (4, [.ref a_net, .ref a_now, .ref a_don, .ref a_wri, .ref h_per, .ref a_tho, .ref a_aft])), (h_per, .inr (2, [.ref h_hol, .int pg])), (h_hol, .inl (cI, 10, .inl w0)), (h_out, .inl (cL, 1, .inr (.inl (vp_updL out (0 : Int32).toNatClampNeg v.toInt64))))] H := hP
    have hD : va_D A [(h_x, .inr (4, [.ref a_net, .ref a_now, .ref a_don, .ref a_wri, .ref h_per, .ref a_tho, .ref a_aft])), (h_per, .inr (2, [.ref h_hol, .int pg])), (h_hol, .inl (cI, 10, .inl w0)), (h_out, .inl (cL, 1, .inr (.inl (vp_updL out (0 : Int32).toNatClampNeg v.toInt64))))] := hD
    refine lv_goto (tgt := 18) hx hb dL_handBack_9 (by decide) ?_
    refine lv_iconst (v := 0) hx hb dL_handBack_18 (by decide) ?_
    cases h
    rw [hQQ]
    refine W.widen (k := 1) (n := 6) (Nat.le_of_ble_eq_true rfl) (Nat.le_of_ble_eq_true rfl) ?_
    exact W.iret hx hb hr (fun t ht hW => ⟨rfl, by rw [ht]; exact hP, hD, hS.F ht⟩) hS.2.2 dL_handBack_19

def fL_isClosed (N : Nat) (nc : Int32) (sc : Int32) (br : Int32) (so : Int32) (lo : Int32) (cl : Int32) (ea : Int32) (on : Int32) (out : Nat → Int64) (p0 : Int32) : Option ((Int32) × (Nat → Int64)) :=
  bh1 (fX4_isClosed N nc sc br so lo cl ea on p0) (fun E => (if E = "java/lang/IndexOutOfBoundsException" then some (1, out) else none)) (fun v => (if v = 0 then some (0, vp_updL out (0 : Int32).toNatClampNeg (0 : Int64)) else some (0, vp_updL out (0 : Int32).toNatClampNeg (1 : Int64))))
set_option maxRecDepth 100000 in
theorem lkL_isClosed_0 : (.classLink RL 19 "java/lang/IndexOutOfBoundsException" : Cond) ∈ wsL_isClosed := by decide +kernel
abbrev rmL_isClosed : Room := { frames := 7, cells := 1, slots := 6, locals := 103 }
set_option maxHeartbeats 4000000 in
set_option maxRecDepth 100000 in
theorem kL_isClosed (l : Launch) (hl0 : l.stackTraces = false) (D : va_G) (cI cZ cL : ClassId) (sz0 : Nat) (h_x a_don a_wri a_per a_tho a_aft h_net a_ends h_now h_out : Nat) (nc : Int32) (sc : Int32) (br : Int32) (so : Int32) (lo : Int32) (cl : Int32) (ea : Int32) (on : Int32) (out : Nat → Int64) (p0 : Int32) (N : Nat) {r : Int32} {r_out : Nat → Int64} (h : fL_isClosed N nc sc br so lo cl ea on out p0 = some (r, r_out)) : Met l yL_isClosed wsL_isClosed rmL_isClosed (PH D cI cZ cL [.ref h_x, .int p0, .ref h_out] [(h_x, .inr (4, [.ref h_net, .ref h_now, .ref a_don, .ref a_wri, .ref a_per, .ref a_tho, .ref a_aft])), (h_net, .inr (1, [.ref a_ends, .int nc, .int sc, .int br, .int so, .int lo])), (h_now, .inr (3, [.int cl, .int ea, .int on])), (h_out, .inl (cL, 1, .inr (.inl out)))] sz0) (QM D (some (.int r)) (va_A [(h_x, .inr (4, [.ref h_net, .ref h_now, .ref a_don, .ref a_wri, .ref a_per, .ref a_tho, .ref a_aft])), (h_net, .inr (1, [.ref a_ends, .int nc, .int sc, .int br, .int so, .int lo])), (h_now, .inr (3, [.int cl, .int ea, .int on])), (h_out, .inl (cL, 1, .inr (.inl out)))] sz0) [(h_x, .inr (4, [.ref h_net, .ref h_now, .ref a_don, .ref a_wri, .ref a_per, .ref a_tho, .ref a_aft])), (h_net, .inr (1, [.ref a_ends, .int nc, .int sc, .int br, .int so, .int lo])), (h_now, .inr (3, [.int cl, .int ea, .int on])), (h_out, .inl (cL, 1, .inr (.inl r_out)))]) 1 6 (va_A [(h_x, .inr (4, [.ref h_net, .ref h_now, .ref a_don, .ref a_wri, .ref a_per, .ref a_tho, .ref a_aft])), (h_net, .inr (1, [.ref a_ends, .int nc, .int sc, .int br, .int so, .int lo])), (h_now, .inr (3, [.int cl, .int ea, .int on])), (h_out, .inl (cL, 1, .inr (.inl out)))] sz0) := by
  refine zz_ofWH (cc := cL_isClosed) (maxL := 4) (ret := (some .int)) (hh := [(0, 16, 19, 19)]) (by decide) rfl ?_
  intro p e s m args below meth c s₁ B hml hv
  obtain ⟨rfl, hsz, hP, hKK, hD0, hKS, hKZ, hKX⟩ := hv
  have hK := hKK.1
  have hx := B.exec
  have hb := B.bytes
  have hr := B.returns
  have hts := atoms_spec (ws := wsL_isClosed) B.pre
  have hown : s.vm.findClass RL = some m.cls := findClass_of_methodNamed B.named
  have hlocks := B.notSynchronized
  have htab : c.exceptionTable.toList = [⟨0, 16, 19, 19⟩] := (vx_table (x := yL_isClosed) B (hts (.codeWith yL_isClosed cL_isClosed 4 (some .int) [(0, 16, 19, 19)]) List.mem_cons_self)).trans rfl
  subst hsz
  have hD := hD0.self (sz := s.heap.size)
  generalize hAe : va_A [(h_x, .inr (4, [.ref h_net, .ref h_now, .ref a_don, .ref a_wri, .ref a_per, .ref a_tho, .ref a_aft])), (h_net, .inr (1, [.ref a_ends, .int nc, .int sc, .int br, .int so, .int lo])), (h_now, .inr (3, [.int cl, .int ea, .int on])), (h_out, .inl (cL, 1, .inr (.inl out)))] s.heap.size = A at hD hKZ ⊢
  have hA : ∀ q : Nat, s.heap.size ≤ q → A q := fun q h => by rw [← hAe]; exact Or.inr h
  have hS : va_S A s.heap s.heap [] := va_S.rf
  have hl := lv_entry ([.ref h_x, .int p0, .ref h_out]) (n := 4) (Nat.le_of_ble_eq_true rfl)
  rw [lg_entry_eq]
  generalize (lg_sl ([.ref h_x, .int p0, .ref h_out]) ++ List.replicate (4 - (lg_sl ([.ref h_x, .int p0, .ref h_out])).length) Slot.unset).toArray = ls at hl ⊢
  have hl : lv_has ls 4 [(0, .ref h_x), (1, .int p0), (2, .ref h_out)] := hl
  obtain ⟨QQ, hQQ⟩ : ∃ Z, Z = MQ below (QM D (some (.int r)) A [(h_x, .inr (4, [.ref h_net, .ref h_now, .ref a_don, .ref a_wri, .ref a_per, .ref a_tho, .ref a_aft])), (h_net, .inr (1, [.ref a_ends, .int nc, .int sc, .int br, .int so, .int lo])), (h_now, .inr (3, [.int cl, .int ea, .int on])), (h_out, .inl (cL, 1, .inr (.inl r_out)))]) ([.ref h_x, .int p0, .ref h_out] : List Value).toArray s 1 6 A := ⟨_, rfl⟩
  rw [← hQQ]
  obtain ⟨H, locs, hHe, hLe⟩ : ∃ (H : Heap) (locs : List Loc), H = s.heap ∧ locs = [] := ⟨_, _, rfl, rfl⟩
  have hP : va_P D vwCl [(h_x, .inr (4, [.ref h_net, .ref h_now, .ref a_don, .ref a_wri, .ref a_per, .ref a_tho, .ref a_aft])), (h_net, .inr (1, [.ref a_ends, .int nc, .int sc, .int br, .int so, .int lo])), (h_now, .inr (3, [.int cl, .int ea, .int on])), (h_out, .inl (cL, 1, .inr (.inl out)))] H := by rw [hHe]; exact hP
  have hS : va_S A s.heap H locs := by rw [hHe, hLe]; exact hS
  have hW0 : ∀ QQ : State → Prop, W p l e (headSpec wsL_isClosed rmL_isClosed).room s m (([.ref h_x, .int p0, .ref h_out] : List Value).toArray) below meth c H locs 0 0 QQ (F0 m 0 ls []) → W p l e (headSpec wsL_isClosed rmL_isClosed).room s m (([.ref h_x, .int p0, .ref h_out] : List Value).toArray) below meth c s.heap [] 0 0 QQ (F0 m 0 ls []) := by rw [hHe, hLe]; exact fun _ h => h
  refine hW0 _ ?_
  clear hW0
  unfold fL_isClosed at h
  refine lv_aload_n hx hb dL_isClosed_0 rfl (lv_at hl 2 rfl) ?_
  refine lv_iconst (v := 0) hx hb dL_isClosed_1 (by decide) ?_
  refine lv_aload_n hx hb dL_isClosed_2 rfl (lv_at hl 0 rfl) ?_
  refine lv_iload_n hx hb dL_isClosed_3 rfl (lv_at hl 1 rfl) ?_
  obtain ⟨Rr, hq, hx1, hk1⟩ := bh1_r h
  refine zz_xV (As := [.int p0]) (wr := [(h_out, .inl (cL, 1, .inr (.inl out)))]) (w1 := fun u : (Int32) => [(h_x, .inr (4, [.ref h_net, .ref h_now, .ref a_don, .ref a_wri, .ref a_per, .ref a_tho, .ref a_aft])), (h_net, .inr (1, [.ref a_ends, .int nc, .int sc, .int br, .int so, .int lo])), (h_now, .inr (3, [.int cl, .int ea, .int on]))]) (wt' := fun u : (Int32) => [(h_x, .inr (4, [.ref h_net, .ref h_now, .ref a_don, .ref a_wri, .ref a_per, .ref a_tho, .ref a_aft])), (h_net, .inr (1, [.ref a_ends, .int nc, .int sc, .int br, .int so, .int lo])), (h_now, .inr (3, [.int cl, .int ea, .int on])), (h_out, .inl (cL, 1, .inr (.inl out)))]) (wc := [(h_x, .inr (4, [.ref h_net, .ref h_now, .ref a_don, .ref a_wri, .ref a_per, .ref a_tho, .ref a_aft])), (h_net, .inr (1, [.ref a_ends, .int nc, .int sc, .int br, .int so, .int lo])), (h_now, .inr (3, [.int cl, .int ea, .int on]))]) (rv := fun u => some (.int u)) ⟨hx, hb, hml, hown, hts⟩ (kX4_isClosed l hl0 D cI cZ cL H.size h_x a_don a_wri a_per a_tho a_aft h_net a_ends h_now nc sc br so lo cl ea on p0 N hq) (cwV 1 hts gL_isClosed_X4_isClosed rfl rfl rfl (by decide +kernel) ⟨Nat.le_of_ble_eq_true rfl, Nat.le_of_ble_eq_true rfl⟩) hP hD hS hA hKK hKS hKZ [0, 1, 2] [3] [1, 2, 3, 0] rfl rfl (by decide) (by decide) (fun _ => rfl) rfl (by decide) (by decide) (va_recv hK hP (ci := 4) (q0 := 0) rfl rfl) rfl hl.1 rfl (Nat.le_of_ble_eq_true rfl) dL_isClosed_4 ⟨Nat.le_of_ble_eq_true rfl, Nat.le_of_ble_eq_true rfl⟩ (fun E ce q9 H locs hE hP hD hS h1 h2 h3 => ?_) (fun u H locs hu hP hD hS => ?_)
  · have h := hx1 E hE
    by_cases c0 : E = "java/lang/IndexOutOfBoundsException"
    · have h := it_t h c0
      subst c0
      cases h
      refine vx_catch (own := RL) (name := "java/lang/IndexOutOfBoundsException") hown [] ⟨0, 16, 19, 19⟩ [] htab (fun z hz => absurd hz List.not_mem_nil) (by decide) (by decide) (hts _ lkL_isClosed_0) (va_Nw.use rfl (hKS.2 (.castable "java/lang/IndexOutOfBoundsException" "java/lang/IndexOutOfBoundsException") (by decide +kernel))) h1 h2 h3 ?_
      refine lv_astore_n (lv' := [(3, .ref q9), (0, .ref h_x), (1, .int p0), (2, .ref h_out)]) hx hb dL_isClosed_19 rfl hl (by decide) rfl (fun ls hl => ?_)
      refine lv_iconst (v := 1) hx hb dL_isClosed_20 (by decide) ?_
      rw [hQQ]
      refine W.widen (k := 1) (n := 6) (Nat.le_of_ble_eq_true rfl) (Nat.le_of_ble_eq_true rfl) ?_
      exact W.iret hx hb hr (fun t ht hW => ⟨rfl, by rw [ht]; exact hP, hD, hS.F ht⟩) hS.2.2 dL_isClosed_21
    have h := it_f h c0
    cases h
  · obtain ⟨v, rfl⟩ : ∃ z, z = u := ⟨_, rfl⟩
    have h := hk1 _ hu
    have hP : va_P D vwCl [(h_x, .inr (4, [.ref h_net, .ref h_now, .ref a_don, .ref a_wri, .ref a_per, .ref a_tho, .ref a_aft])), (h_net, .inr (1, [.ref a_ends, .int nc, .int sc, .int br, .int so, .int lo])), (h_now, .inr (3, [.int cl, .int ea, .int on])), (h_out, .inl (cL, 1, .inr (.inl out)))] H := hP
    have hD : va_D A [(h_x, .inr (4, [.ref h_net, .ref h_now, .ref a_don, .ref a_wri, .ref a_per, .ref a_tho, .ref a_aft])), (h_net, .inr (1, [.ref a_ends, .int nc, .int sc, .int br, .int so, .int lo])), (h_now, .inr (3, [.int cl, .int ea, .int on])), (h_out, .inl (cL, 1, .inr (.inl out)))] := hD
    show W p l e _ s m _ below meth c H locs _ _ QQ (F0 m 7 ls (.int v :: [.int 0, .ref h_out]))
    refine lv_if_eq (tgt := 14) hx hb dL_isClosed_7 (by decide) (fun c9 => ?_) (fun c9 => ?_)
    · have h := it_t h c9
      refine lv_lconst (v := 0) hx hb dL_isClosed_14 (by decide) ?_
      refine va_last hx hb hK hP hD hS 3 2 rfl rfl (by unfold vp_in; decide) dL_isClosed_15 (fun H locs hP hD hS => ?_)
      have hP : va_P D vwCl [(h_x, .inr (4, [.ref h_net, .ref h_now, .ref a_don, .ref a_wri, .ref a_per, .ref a_tho, .ref a_aft])), (h_net, .inr (1, [.ref a_ends, .int nc, .int sc, .int br, .int so, .int lo])), (h_now, .inr (3, [.int cl, .int ea, .int on])), (h_out, .inl (cL, 1, .inr (.inl (vp_updL out (0 : Int32).toNatClampNeg (0 : Int64)))))] H := hP
      have hD : va_D A [(h_x, .inr (4, [.ref h_net, .ref h_now, .ref a_don, .ref a_wri, .ref a_per, .ref a_tho, .ref a_aft])), (h_net, .inr (1, [.ref a_ends, .int nc, .int sc, .int br, .int so, .int lo])), (h_now, .inr (3, [.int cl, .int ea, .int on])), (h_out, .inl (cL, 1, .inr (.inl (vp_updL out (0 : Int32).toNatClampNeg (0 : Int64)))))] := hD
      refine lv_goto (tgt := 22) hx hb dL_isClosed_16 (by decide) ?_
      refine lv_iconst (v := 0) hx hb dL_isClosed_22 (by decide) ?_
      cases h
      rw [hQQ]
      refine W.widen (k := 1) (n := 6) (Nat.le_of_ble_eq_true rfl) (Nat.le_of_ble_eq_true rfl) ?_
      exact W.iret hx hb hr (fun t ht hW => ⟨rfl, by rw [ht]; exact hP, hD, hS.F ht⟩) hS.2.2 dL_isClosed_23
    · have h := it_f h c9
      refine lv_lconst (v := 1) hx hb dL_isClosed_10 (by decide) ?_
      refine lv_goto (tgt := 15) hx hb dL_isClosed_11 (by decide) ?_
      refine va_last hx hb hK hP hD hS 3 2 rfl rfl (by unfold vp_in; decide) dL_isClosed_15 (fun H locs hP hD hS => ?_)
      have hP : va_P D vwCl [(h_x, .inr (4, [.ref h_net, .ref h_now, .ref a_don, .ref a_wri, .ref a_per, .ref a_tho, .ref a_aft])), (h_net, .inr (1, [.ref a_ends, .int nc, .int sc, .int br, .int so, .int lo])), (h_now, .inr (3, [.int cl, .int ea, .int on])), (h_out, .inl (cL, 1, .inr (.inl (vp_updL out (0 : Int32).toNatClampNeg (1 : Int64)))))] H := hP
      have hD : va_D A [(h_x, .inr (4, [.ref h_net, .ref h_now, .ref a_don, .ref a_wri, .ref a_per, .ref a_tho, .ref a_aft])), (h_net, .inr (1, [.ref a_ends, .int nc, .int sc, .int br, .int so, .int lo])), (h_now, .inr (3, [.int cl, .int ea, .int on])), (h_out, .inl (cL, 1, .inr (.inl (vp_updL out (0 : Int32).toNatClampNeg (1 : Int64)))))] := hD
      refine lv_goto (tgt := 22) hx hb dL_isClosed_16 (by decide) ?_
      refine lv_iconst (v := 0) hx hb dL_isClosed_22 (by decide) ?_
      cases h
      rw [hQQ]
      refine W.widen (k := 1) (n := 6) (Nat.le_of_ble_eq_true rfl) (Nat.le_of_ble_eq_true rfl) ?_
      exact W.iret hx hb hr (fun t ht hW => ⟨rfl, by rw [ht]; exact hP, hD, hS.F ht⟩) hS.2.2 dL_isClosed_23

def fL_part (N : Nat) (nc : Int32) (sc : Int32) (br : Int32) (so : Int32) (lo : Int32) (ends : Nat → Int32) (cl : Int32) (ea : Int32) (on : Int32) (out : Nat → Int64) (p0 : Int32) : Option ((Int32) × (Nat → Int64)) :=
  bh1 (fX4_part N nc sc br so lo ends cl ea on p0) (fun E => (if E = "java/lang/IndexOutOfBoundsException" then some (1, out) else none)) (fun v => some (0, vp_updL out (0 : Int32).toNatClampNeg v.toInt64))
set_option maxRecDepth 100000 in
theorem lkL_part_0 : (.classLink RL 19 "java/lang/IndexOutOfBoundsException" : Cond) ∈ wsL_part := by decide +kernel
abbrev rmL_part : Room := { frames := 8, cells := 1, slots := 6, locals := 124 }
set_option maxHeartbeats 4000000 in
set_option maxRecDepth 100000 in
theorem kL_part (l : Launch) (hl0 : l.stackTraces = false) (D : va_G) (cI cZ cL : ClassId) (sz0 : Nat) (h_x a_don a_wri a_per a_tho a_aft h_net h_ends h_now h_out : Nat) (nc : Int32) (sc : Int32) (br : Int32) (so : Int32) (lo : Int32) (ends : Nat → Int32) (cl : Int32) (ea : Int32) (on : Int32) (out : Nat → Int64) (p0 : Int32) (N : Nat) {r : Int32} {r_out : Nat → Int64} (h : fL_part N nc sc br so lo ends cl ea on out p0 = some (r, r_out)) : Met l yL_part wsL_part rmL_part (PH D cI cZ cL [.ref h_x, .int p0, .ref h_out] [(h_x, .inr (4, [.ref h_net, .ref h_now, .ref a_don, .ref a_wri, .ref a_per, .ref a_tho, .ref a_aft])), (h_net, .inr (1, [.ref h_ends, .int nc, .int sc, .int br, .int so, .int lo])), (h_ends, .inl (cI, 24, .inl ends)), (h_now, .inr (3, [.int cl, .int ea, .int on])), (h_out, .inl (cL, 1, .inr (.inl out)))] sz0) (QM D (some (.int r)) (va_A [(h_x, .inr (4, [.ref h_net, .ref h_now, .ref a_don, .ref a_wri, .ref a_per, .ref a_tho, .ref a_aft])), (h_net, .inr (1, [.ref h_ends, .int nc, .int sc, .int br, .int so, .int lo])), (h_ends, .inl (cI, 24, .inl ends)), (h_now, .inr (3, [.int cl, .int ea, .int on])), (h_out, .inl (cL, 1, .inr (.inl out)))] sz0) [(h_x, .inr (4, [.ref h_net, .ref h_now, .ref a_don, .ref a_wri, .ref a_per, .ref a_tho, .ref a_aft])), (h_net, .inr (1, [.ref h_ends, .int nc, .int sc, .int br, .int so, .int lo])), (h_ends, .inl (cI, 24, .inl ends)), (h_now, .inr (3, [.int cl, .int ea, .int on])), (h_out, .inl (cL, 1, .inr (.inl r_out)))]) 1 6 (va_A [(h_x, .inr (4, [.ref h_net, .ref h_now, .ref a_don, .ref a_wri, .ref a_per, .ref a_tho, .ref a_aft])), (h_net, .inr (1, [.ref h_ends, .int nc, .int sc, .int br, .int so, .int lo])), (h_ends, .inl (cI, 24, .inl ends)), (h_now, .inr (3, [.int cl, .int ea, .int on])), (h_out, .inl (cL, 1, .inr (.inl out)))] sz0) := by
  refine zz_ofWH (cc := cL_part) (maxL := 4) (ret := (some .int)) (hh := [(0, 9, 12, 19)]) (by decide) rfl ?_
  intro p e s m args below meth c s₁ B hml hv
  obtain ⟨rfl, hsz, hP, hKK, hD0, hKS, hKZ, hKX⟩ := hv
  have hK := hKK.1
  have hx := B.exec
  have hb := B.bytes
  have hr := B.returns
  have hts := atoms_spec (ws := wsL_part) B.pre
  have hown : s.vm.findClass RL = some m.cls := findClass_of_methodNamed B.named
  have hlocks := B.notSynchronized
  have htab : c.exceptionTable.toList = [⟨0, 9, 12, 19⟩] := (vx_table (x := yL_part) B (hts (.codeWith yL_part cL_part 4 (some .int) [(0, 9, 12, 19)]) List.mem_cons_self)).trans rfl
  subst hsz
  have hD := hD0.self (sz := s.heap.size)
  generalize hAe : va_A [(h_x, .inr (4, [.ref h_net, .ref h_now, .ref a_don, .ref a_wri, .ref a_per, .ref a_tho, .ref a_aft])), (h_net, .inr (1, [.ref h_ends, .int nc, .int sc, .int br, .int so, .int lo])), (h_ends, .inl (cI, 24, .inl ends)), (h_now, .inr (3, [.int cl, .int ea, .int on])), (h_out, .inl (cL, 1, .inr (.inl out)))] s.heap.size = A at hD hKZ ⊢
  have hA : ∀ q : Nat, s.heap.size ≤ q → A q := fun q h => by rw [← hAe]; exact Or.inr h
  have hS : va_S A s.heap s.heap [] := va_S.rf
  have hl := lv_entry ([.ref h_x, .int p0, .ref h_out]) (n := 4) (Nat.le_of_ble_eq_true rfl)
  rw [lg_entry_eq]
  generalize (lg_sl ([.ref h_x, .int p0, .ref h_out]) ++ List.replicate (4 - (lg_sl ([.ref h_x, .int p0, .ref h_out])).length) Slot.unset).toArray = ls at hl ⊢
  have hl : lv_has ls 4 [(0, .ref h_x), (1, .int p0), (2, .ref h_out)] := hl
  obtain ⟨QQ, hQQ⟩ : ∃ Z, Z = MQ below (QM D (some (.int r)) A [(h_x, .inr (4, [.ref h_net, .ref h_now, .ref a_don, .ref a_wri, .ref a_per, .ref a_tho, .ref a_aft])), (h_net, .inr (1, [.ref h_ends, .int nc, .int sc, .int br, .int so, .int lo])), (h_ends, .inl (cI, 24, .inl ends)), (h_now, .inr (3, [.int cl, .int ea, .int on])), (h_out, .inl (cL, 1, .inr (.inl r_out)))]) ([.ref h_x, .int p0, .ref h_out] : List Value).toArray s 1 6 A := ⟨_, rfl⟩
  rw [← hQQ]
  obtain ⟨H, locs, hHe, hLe⟩ : ∃ (H : Heap) (locs : List Loc), H = s.heap ∧ locs = [] := ⟨_, _, rfl, rfl⟩
  have hP : va_P D vwCl [(h_x, .inr (4, [.ref h_net, .ref h_now, .ref a_don, .ref a_wri, .ref a_per, .ref a_tho, .ref a_aft])), (h_net, .inr (1, [.ref h_ends, .int nc, .int sc, .int br, .int so, .int lo])), (h_ends, .inl (cI, 24, .inl ends)), (h_now, .inr (3, [.int cl, .int ea, .int on])), (h_out, .inl (cL, 1, .inr (.inl out)))] H := by rw [hHe]; exact hP
  have hS : va_S A s.heap H locs := by rw [hHe, hLe]; exact hS
  have hW0 : ∀ QQ : State → Prop, W p l e (headSpec wsL_part rmL_part).room s m (([.ref h_x, .int p0, .ref h_out] : List Value).toArray) below meth c H locs 0 0 QQ (F0 m 0 ls []) → W p l e (headSpec wsL_part rmL_part).room s m (([.ref h_x, .int p0, .ref h_out] : List Value).toArray) below meth c s.heap [] 0 0 QQ (F0 m 0 ls []) := by rw [hHe, hLe]; exact fun _ h => h
  refine hW0 _ ?_
  clear hW0
  unfold fL_part at h
  refine lv_aload_n hx hb dL_part_0 rfl (lv_at hl 2 rfl) ?_
  refine lv_iconst (v := 0) hx hb dL_part_1 (by decide) ?_
  refine lv_aload_n hx hb dL_part_2 rfl (lv_at hl 0 rfl) ?_
  refine lv_iload_n hx hb dL_part_3 rfl (lv_at hl 1 rfl) ?_
  obtain ⟨Rr, hq, hx1, hk1⟩ := bh1_r h
  refine zz_xV (As := [.int p0]) (wr := [(h_out, .inl (cL, 1, .inr (.inl out)))]) (w1 := fun u : (Int32) => [(h_x, .inr (4, [.ref h_net, .ref h_now, .ref a_don, .ref a_wri, .ref a_per, .ref a_tho, .ref a_aft])), (h_net, .inr (1, [.ref h_ends, .int nc, .int sc, .int br, .int so, .int lo])), (h_ends, .inl (cI, 24, .inl ends)), (h_now, .inr (3, [.int cl, .int ea, .int on]))]) (wt' := fun u : (Int32) => [(h_x, .inr (4, [.ref h_net, .ref h_now, .ref a_don, .ref a_wri, .ref a_per, .ref a_tho, .ref a_aft])), (h_net, .inr (1, [.ref h_ends, .int nc, .int sc, .int br, .int so, .int lo])), (h_ends, .inl (cI, 24, .inl ends)), (h_now, .inr (3, [.int cl, .int ea, .int on])), (h_out, .inl (cL, 1, .inr (.inl out)))]) (wc := [(h_x, .inr (4, [.ref h_net, .ref h_now, .ref a_don, .ref a_wri, .ref a_per, .ref a_tho, .ref a_aft])), (h_net, .inr (1, [.ref h_ends, .int nc, .int sc, .int br, .int so, .int lo])), (h_ends, .inl (cI, 24, .inl ends)), (h_now, .inr (3, [.int cl, .int ea, .int on]))]) (rv := fun u => some (.int u)) ⟨hx, hb, hml, hown, hts⟩ (kX4_part l hl0 D cI cZ cL H.size h_x a_don a_wri a_per a_tho a_aft h_net h_ends h_now nc sc br so lo ends cl ea on p0 N hq) (cwV 1 hts gL_part_X4_part rfl rfl rfl (by decide +kernel) ⟨Nat.le_of_ble_eq_true rfl, Nat.le_of_ble_eq_true rfl⟩) hP hD hS hA hKK hKS hKZ [0, 1, 2, 3] [4] [1, 2, 3, 4, 0] rfl rfl (by decide) (by decide) (fun _ => rfl) rfl (by decide) (by decide) (va_recv hK hP (ci := 4) (q0 := 0) rfl rfl) rfl hl.1 rfl (Nat.le_of_ble_eq_true rfl) dL_part_4 ⟨Nat.le_of_ble_eq_true rfl, Nat.le_of_ble_eq_true rfl⟩ (fun E ce q9 H locs hE hP hD hS h1 h2 h3 => ?_) (fun u H locs hu hP hD hS => ?_)
  · have h := hx1 E hE
    by_cases c0 : E = "java/lang/IndexOutOfBoundsException"
    · have h := it_t h c0
      subst c0
      cases h
      refine vx_catch (own := RL) (name := "java/lang/IndexOutOfBoundsException") hown [] ⟨0, 9, 12, 19⟩ [] htab (fun z hz => absurd hz List.not_mem_nil) (by decide) (by decide) (hts _ lkL_part_0) (va_Nw.use rfl (hKS.2 (.castable "java/lang/IndexOutOfBoundsException" "java/lang/IndexOutOfBoundsException") (by decide +kernel))) h1 h2 h3 ?_
      refine lv_astore_n (lv' := [(3, .ref q9), (0, .ref h_x), (1, .int p0), (2, .ref h_out)]) hx hb dL_part_12 rfl hl (by decide) rfl (fun ls hl => ?_)
      refine lv_iconst (v := 1) hx hb dL_part_13 (by decide) ?_
      rw [hQQ]
      refine W.widen (k := 1) (n := 6) (Nat.le_of_ble_eq_true rfl) (Nat.le_of_ble_eq_true rfl) ?_
      exact W.iret hx hb hr (fun t ht hW => ⟨rfl, by rw [ht]; exact hP, hD, hS.F ht⟩) hS.2.2 dL_part_14
    have h := it_f h c0
    cases h
  · obtain ⟨v, rfl⟩ : ∃ z, z = u := ⟨_, rfl⟩
    have h := hk1 _ hu
    have hP : va_P D vwCl [(h_x, .inr (4, [.ref h_net, .ref h_now, .ref a_don, .ref a_wri, .ref a_per, .ref a_tho, .ref a_aft])), (h_net, .inr (1, [.ref h_ends, .int nc, .int sc, .int br, .int so, .int lo])), (h_ends, .inl (cI, 24, .inl ends)), (h_now, .inr (3, [.int cl, .int ea, .int on])), (h_out, .inl (cL, 1, .inr (.inl out)))] H := hP
    have hD : va_D A [(h_x, .inr (4, [.ref h_net, .ref h_now, .ref a_don, .ref a_wri, .ref a_per, .ref a_tho, .ref a_aft])), (h_net, .inr (1, [.ref h_ends, .int nc, .int sc, .int br, .int so, .int lo])), (h_ends, .inl (cI, 24, .inl ends)), (h_now, .inr (3, [.int cl, .int ea, .int on])), (h_out, .inl (cL, 1, .inr (.inl out)))] := hD
    show W p l e _ s m _ below meth c H locs _ _ QQ (F0 m 7 ls (.int v :: [.int 0, .ref h_out]))
    refine lv_i2l (v := v.toInt64) hx hb dL_part_7 rfl ?_
    refine va_last hx hb hK hP hD hS 4 2 rfl rfl (by unfold vp_in; decide) dL_part_8 (fun H locs hP hD hS => ?_)
    have hP : va_P D vwCl [(h_x, .inr (4, [.ref h_net, .ref h_now, .ref a_don, .ref a_wri, .ref a_per, .ref a_tho, .ref a_aft])), (h_net, .inr (1, [.ref h_ends, .int nc, .int sc, .int br, .int so, .int lo])), (h_ends, .inl (cI, 24, .inl ends)), (h_now, .inr (3, [.int cl, .int ea, .int on])), (h_out, .inl (cL, 1, .inr (.inl (vp_updL out (0 : Int32).toNatClampNeg v.toInt64))))] H := hP
    have hD : va_D A [(h_x, .inr (4, [.ref h_net, .ref h_now, .ref a_don, .ref a_wri, .ref a_per, .ref a_tho, .ref a_aft])), (h_net, .inr (1, [.ref h_ends, .int nc, .int sc, .int br, .int so, .int lo])), (h_ends, .inl (cI, 24, .inl ends)), (h_now, .inr (3, [.int cl, .int ea, .int on])), (h_out, .inl (cL, 1, .inr (.inl (vp_updL out (0 : Int32).toNatClampNeg v.toInt64))))] := hD
    refine lv_goto (tgt := 15) hx hb dL_part_9 (by decide) ?_
    refine lv_iconst (v := 0) hx hb dL_part_15 (by decide) ?_
    cases h
    rw [hQQ]
    refine W.widen (k := 1) (n := 6) (Nat.le_of_ble_eq_true rfl) (Nat.le_of_ble_eq_true rfl) ?_
    exact W.iret hx hb hr (fun t ht hW => ⟨rfl, by rw [ht]; exact hP, hD, hS.F ht⟩) hS.2.2 dL_part_16

def fL_toLive (N : Nat) (nc : Int32) (sc : Int32) (br : Int32) (so : Int32) (lo : Int32) (ends : Nat → Int32) (cl : Int32) (ea : Int32) (on : Int32) (out : Nat → Int64) (p0 : Int32) : Option ((Int32) × (Nat → Int64)) :=
  bh1 (fX4_toLive N nc sc br so lo ends cl ea on p0) (fun E => (if E = "java/lang/IndexOutOfBoundsException" then some (1, out) else (if E = "java/util/NoSuchElementException" then some (2, out) else none))) (fun v => some (0, vp_updL out (0 : Int32).toNatClampNeg v.toInt64))
set_option maxRecDepth 100000 in
theorem lkL_toLive_0 : (.classLink RL 19 "java/lang/IndexOutOfBoundsException" : Cond) ∈ wsL_toLive := by decide +kernel
set_option maxRecDepth 100000 in
theorem lkL_toLive_1 : (.classLink RL 63 "java/util/NoSuchElementException" : Cond) ∈ wsL_toLive := by decide +kernel
abbrev rmL_toLive : Room := { frames := 8, cells := 2, slots := 12, locals := 126 }
set_option maxHeartbeats 4000000 in
set_option maxRecDepth 100000 in
theorem kL_toLive (l : Launch) (hl0 : l.stackTraces = false) (D : va_G) (cI cZ cL : ClassId) (sz0 : Nat) (h_x a_don a_wri a_per a_tho a_aft h_net h_ends h_now h_out : Nat) (nc : Int32) (sc : Int32) (br : Int32) (so : Int32) (lo : Int32) (ends : Nat → Int32) (cl : Int32) (ea : Int32) (on : Int32) (out : Nat → Int64) (p0 : Int32) (N : Nat) {r : Int32} {r_out : Nat → Int64} (h : fL_toLive N nc sc br so lo ends cl ea on out p0 = some (r, r_out)) : Met l yL_toLive wsL_toLive rmL_toLive (PH D cI cZ cL [.ref h_x, .int p0, .ref h_out] [(h_x, .inr (4, [.ref h_net, .ref h_now, .ref a_don, .ref a_wri, .ref a_per, .ref a_tho, .ref a_aft])), (h_net, .inr (1, [.ref h_ends, .int nc, .int sc, .int br, .int so, .int lo])), (h_ends, .inl (cI, 24, .inl ends)), (h_now, .inr (3, [.int cl, .int ea, .int on])), (h_out, .inl (cL, 1, .inr (.inl out)))] sz0) (QM D (some (.int r)) (va_A [(h_x, .inr (4, [.ref h_net, .ref h_now, .ref a_don, .ref a_wri, .ref a_per, .ref a_tho, .ref a_aft])), (h_net, .inr (1, [.ref h_ends, .int nc, .int sc, .int br, .int so, .int lo])), (h_ends, .inl (cI, 24, .inl ends)), (h_now, .inr (3, [.int cl, .int ea, .int on])), (h_out, .inl (cL, 1, .inr (.inl out)))] sz0) [(h_x, .inr (4, [.ref h_net, .ref h_now, .ref a_don, .ref a_wri, .ref a_per, .ref a_tho, .ref a_aft])), (h_net, .inr (1, [.ref h_ends, .int nc, .int sc, .int br, .int so, .int lo])), (h_ends, .inl (cI, 24, .inl ends)), (h_now, .inr (3, [.int cl, .int ea, .int on])), (h_out, .inl (cL, 1, .inr (.inl r_out)))]) 2 12 (va_A [(h_x, .inr (4, [.ref h_net, .ref h_now, .ref a_don, .ref a_wri, .ref a_per, .ref a_tho, .ref a_aft])), (h_net, .inr (1, [.ref h_ends, .int nc, .int sc, .int br, .int so, .int lo])), (h_ends, .inl (cI, 24, .inl ends)), (h_now, .inr (3, [.int cl, .int ea, .int on])), (h_out, .inl (cL, 1, .inr (.inl out)))] sz0) := by
  refine zz_ofWH (cc := cL_toLive) (maxL := 4) (ret := (some .int)) (hh := [(0, 9, 12, 19), (0, 9, 15, 63)]) (by decide) rfl ?_
  intro p e s m args below meth c s₁ B hml hv
  obtain ⟨rfl, hsz, hP, hKK, hD0, hKS, hKZ, hKX⟩ := hv
  have hK := hKK.1
  have hx := B.exec
  have hb := B.bytes
  have hr := B.returns
  have hts := atoms_spec (ws := wsL_toLive) B.pre
  have hown : s.vm.findClass RL = some m.cls := findClass_of_methodNamed B.named
  have hlocks := B.notSynchronized
  have htab : c.exceptionTable.toList = [⟨0, 9, 12, 19⟩, ⟨0, 9, 15, 63⟩] := (vx_table (x := yL_toLive) B (hts (.codeWith yL_toLive cL_toLive 4 (some .int) [(0, 9, 12, 19), (0, 9, 15, 63)]) List.mem_cons_self)).trans rfl
  subst hsz
  have hD := hD0.self (sz := s.heap.size)
  generalize hAe : va_A [(h_x, .inr (4, [.ref h_net, .ref h_now, .ref a_don, .ref a_wri, .ref a_per, .ref a_tho, .ref a_aft])), (h_net, .inr (1, [.ref h_ends, .int nc, .int sc, .int br, .int so, .int lo])), (h_ends, .inl (cI, 24, .inl ends)), (h_now, .inr (3, [.int cl, .int ea, .int on])), (h_out, .inl (cL, 1, .inr (.inl out)))] s.heap.size = A at hD hKZ ⊢
  have hA : ∀ q : Nat, s.heap.size ≤ q → A q := fun q h => by rw [← hAe]; exact Or.inr h
  have hS : va_S A s.heap s.heap [] := va_S.rf
  have hl := lv_entry ([.ref h_x, .int p0, .ref h_out]) (n := 4) (Nat.le_of_ble_eq_true rfl)
  rw [lg_entry_eq]
  generalize (lg_sl ([.ref h_x, .int p0, .ref h_out]) ++ List.replicate (4 - (lg_sl ([.ref h_x, .int p0, .ref h_out])).length) Slot.unset).toArray = ls at hl ⊢
  have hl : lv_has ls 4 [(0, .ref h_x), (1, .int p0), (2, .ref h_out)] := hl
  obtain ⟨QQ, hQQ⟩ : ∃ Z, Z = MQ below (QM D (some (.int r)) A [(h_x, .inr (4, [.ref h_net, .ref h_now, .ref a_don, .ref a_wri, .ref a_per, .ref a_tho, .ref a_aft])), (h_net, .inr (1, [.ref h_ends, .int nc, .int sc, .int br, .int so, .int lo])), (h_ends, .inl (cI, 24, .inl ends)), (h_now, .inr (3, [.int cl, .int ea, .int on])), (h_out, .inl (cL, 1, .inr (.inl r_out)))]) ([.ref h_x, .int p0, .ref h_out] : List Value).toArray s 2 12 A := ⟨_, rfl⟩
  rw [← hQQ]
  obtain ⟨H, locs, hHe, hLe⟩ : ∃ (H : Heap) (locs : List Loc), H = s.heap ∧ locs = [] := ⟨_, _, rfl, rfl⟩
  have hP : va_P D vwCl [(h_x, .inr (4, [.ref h_net, .ref h_now, .ref a_don, .ref a_wri, .ref a_per, .ref a_tho, .ref a_aft])), (h_net, .inr (1, [.ref h_ends, .int nc, .int sc, .int br, .int so, .int lo])), (h_ends, .inl (cI, 24, .inl ends)), (h_now, .inr (3, [.int cl, .int ea, .int on])), (h_out, .inl (cL, 1, .inr (.inl out)))] H := by rw [hHe]; exact hP
  have hS : va_S A s.heap H locs := by rw [hHe, hLe]; exact hS
  have hW0 : ∀ QQ : State → Prop, W p l e (headSpec wsL_toLive rmL_toLive).room s m (([.ref h_x, .int p0, .ref h_out] : List Value).toArray) below meth c H locs 0 0 QQ (F0 m 0 ls []) → W p l e (headSpec wsL_toLive rmL_toLive).room s m (([.ref h_x, .int p0, .ref h_out] : List Value).toArray) below meth c s.heap [] 0 0 QQ (F0 m 0 ls []) := by rw [hHe, hLe]; exact fun _ h => h
  refine hW0 _ ?_
  clear hW0
  unfold fL_toLive at h
  refine lv_aload_n hx hb dL_toLive_0 rfl (lv_at hl 2 rfl) ?_
  refine lv_iconst (v := 0) hx hb dL_toLive_1 (by decide) ?_
  refine lv_aload_n hx hb dL_toLive_2 rfl (lv_at hl 0 rfl) ?_
  refine lv_iload_n hx hb dL_toLive_3 rfl (lv_at hl 1 rfl) ?_
  obtain ⟨Rr, hq, hx1, hk1⟩ := bh1_r h
  refine zz_xV (As := [.int p0]) (wr := [(h_out, .inl (cL, 1, .inr (.inl out)))]) (w1 := fun u : (Int32) => [(h_x, .inr (4, [.ref h_net, .ref h_now, .ref a_don, .ref a_wri, .ref a_per, .ref a_tho, .ref a_aft])), (h_net, .inr (1, [.ref h_ends, .int nc, .int sc, .int br, .int so, .int lo])), (h_ends, .inl (cI, 24, .inl ends)), (h_now, .inr (3, [.int cl, .int ea, .int on]))]) (wt' := fun u : (Int32) => [(h_x, .inr (4, [.ref h_net, .ref h_now, .ref a_don, .ref a_wri, .ref a_per, .ref a_tho, .ref a_aft])), (h_net, .inr (1, [.ref h_ends, .int nc, .int sc, .int br, .int so, .int lo])), (h_ends, .inl (cI, 24, .inl ends)), (h_now, .inr (3, [.int cl, .int ea, .int on])), (h_out, .inl (cL, 1, .inr (.inl out)))]) (wc := [(h_x, .inr (4, [.ref h_net, .ref h_now, .ref a_don, .ref a_wri, .ref a_per, .ref a_tho, .ref a_aft])), (h_net, .inr (1, [.ref h_ends, .int nc, .int sc, .int br, .int so, .int lo])), (h_ends, .inl (cI, 24, .inl ends)), (h_now, .inr (3, [.int cl, .int ea, .int on]))]) (rv := fun u => some (.int u)) ⟨hx, hb, hml, hown, hts⟩ (k2X4_toLive l hl0 D cI cZ cL H.size h_x a_don a_wri a_per a_tho a_aft h_net h_ends h_now nc sc br so lo ends cl ea on p0 N hq) (cwV 1 hts gL_toLive_X4_toLive rfl rfl rfl (by decide +kernel) ⟨Nat.le_of_ble_eq_true rfl, Nat.le_of_ble_eq_true rfl⟩) hP hD hS hA hKK hKS hKZ [0, 1, 2, 3] [4] [1, 2, 3, 4, 0] rfl rfl (by decide) (by decide) (fun _ => rfl) rfl (by decide) (by decide) (va_recv hK hP (ci := 4) (q0 := 0) rfl rfl) rfl hl.1 rfl (Nat.le_of_ble_eq_true rfl) dL_toLive_4 ⟨Nat.le_of_ble_eq_true rfl, Nat.le_of_ble_eq_true rfl⟩ (fun E ce q9 H locs hE hP hD hS h1 h2 h3 => ?_) (fun u H locs hu hP hD hS => ?_)
  · have h := hx1 E hE
    by_cases c0 : E = "java/lang/IndexOutOfBoundsException"
    · have h := it_t h c0
      subst c0
      cases h
      refine vx_catch (own := RL) (name := "java/lang/IndexOutOfBoundsException") hown [] ⟨0, 9, 12, 19⟩ [⟨0, 9, 15, 63⟩] htab (fun z hz => absurd hz List.not_mem_nil) (by decide) (by decide) (hts _ lkL_toLive_0) (va_Nw.use rfl (hKS.2 (.castable "java/lang/IndexOutOfBoundsException" "java/lang/IndexOutOfBoundsException") (by decide +kernel))) h1 h2 h3 ?_
      refine lv_astore_n (lv' := [(3, .ref q9), (0, .ref h_x), (1, .int p0), (2, .ref h_out)]) hx hb dL_toLive_12 rfl hl (by decide) rfl (fun ls hl => ?_)
      refine lv_iconst (v := 1) hx hb dL_toLive_13 (by decide) ?_
      rw [hQQ]
      refine W.widen (k := 2) (n := 12) (Nat.le_of_ble_eq_true rfl) (Nat.le_of_ble_eq_true rfl) ?_
      exact W.iret hx hb hr (fun t ht hW => ⟨rfl, by rw [ht]; exact hP, hD, hS.F ht⟩) hS.2.2 dL_toLive_14
    have h := it_f h c0
    by_cases c1 : E = "java/util/NoSuchElementException"
    · have h := it_t h c1
      subst c1
      cases h
      refine vx_catch (own := RL) (name := "java/util/NoSuchElementException") hown [⟨0, 9, 12, 19⟩] ⟨0, 9, 15, 63⟩ [] htab (List.forall_mem_cons.mpr ⟨Or.inr ⟨by decide, ⟨"java/lang/IndexOutOfBoundsException", hts _ lkL_toLive_0, hKX ("java/util/NoSuchElementException", "java/lang/IndexOutOfBoundsException") (by decide)⟩⟩, fun z hz => absurd hz List.not_mem_nil⟩) (by decide) (by decide) (hts _ lkL_toLive_1) (va_Nw.use rfl (hKS.2 (.castable "java/util/NoSuchElementException" "java/util/NoSuchElementException") (by decide +kernel))) h1 h2 h3 ?_
      refine lv_astore_n (lv' := [(3, .ref q9), (0, .ref h_x), (1, .int p0), (2, .ref h_out)]) hx hb dL_toLive_15 rfl hl (by decide) rfl (fun ls hl => ?_)
      refine lv_iconst (v := 2) hx hb dL_toLive_16 (by decide) ?_
      rw [hQQ]
      refine W.widen (k := 2) (n := 12) (Nat.le_of_ble_eq_true rfl) (Nat.le_of_ble_eq_true rfl) ?_
      exact W.iret hx hb hr (fun t ht hW => ⟨rfl, by rw [ht]; exact hP, hD, hS.F ht⟩) hS.2.2 dL_toLive_17
    have h := it_f h c1
    cases h
  · obtain ⟨v, rfl⟩ : ∃ z, z = u := ⟨_, rfl⟩
    have h := hk1 _ hu
    have hP : va_P D vwCl [(h_x, .inr (4, [.ref h_net, .ref h_now, .ref a_don, .ref a_wri, .ref a_per, .ref a_tho, .ref a_aft])), (h_net, .inr (1, [.ref h_ends, .int nc, .int sc, .int br, .int so, .int lo])), (h_ends, .inl (cI, 24, .inl ends)), (h_now, .inr (3, [.int cl, .int ea, .int on])), (h_out, .inl (cL, 1, .inr (.inl out)))] H := hP
    have hD : va_D A [(h_x, .inr (4, [.ref h_net, .ref h_now, .ref a_don, .ref a_wri, .ref a_per, .ref a_tho, .ref a_aft])), (h_net, .inr (1, [.ref h_ends, .int nc, .int sc, .int br, .int so, .int lo])), (h_ends, .inl (cI, 24, .inl ends)), (h_now, .inr (3, [.int cl, .int ea, .int on])), (h_out, .inl (cL, 1, .inr (.inl out)))] := hD
    show W p l e _ s m _ below meth c H locs _ _ QQ (F0 m 7 ls (.int v :: [.int 0, .ref h_out]))
    refine lv_i2l (v := v.toInt64) hx hb dL_toLive_7 rfl ?_
    refine va_last hx hb hK hP hD hS 4 2 rfl rfl (by unfold vp_in; decide) dL_toLive_8 (fun H locs hP hD hS => ?_)
    have hP : va_P D vwCl [(h_x, .inr (4, [.ref h_net, .ref h_now, .ref a_don, .ref a_wri, .ref a_per, .ref a_tho, .ref a_aft])), (h_net, .inr (1, [.ref h_ends, .int nc, .int sc, .int br, .int so, .int lo])), (h_ends, .inl (cI, 24, .inl ends)), (h_now, .inr (3, [.int cl, .int ea, .int on])), (h_out, .inl (cL, 1, .inr (.inl (vp_updL out (0 : Int32).toNatClampNeg v.toInt64))))] H := hP
    have hD : va_D A [(h_x, .inr (4, [.ref h_net, .ref h_now, .ref a_don, .ref a_wri, .ref a_per, .ref a_tho, .ref a_aft])), (h_net, .inr (1, [.ref h_ends, .int nc, .int sc, .int br, .int so, .int lo])), (h_ends, .inl (cI, 24, .inl ends)), (h_now, .inr (3, [.int cl, .int ea, .int on])), (h_out, .inl (cL, 1, .inr (.inl (vp_updL out (0 : Int32).toNatClampNeg v.toInt64))))] := hD
    refine lv_goto (tgt := 18) hx hb dL_toLive_9 (by decide) ?_
    refine lv_iconst (v := 0) hx hb dL_toLive_18 (by decide) ?_
    cases h
    rw [hQQ]
    refine W.widen (k := 2) (n := 12) (Nat.le_of_ble_eq_true rfl) (Nat.le_of_ble_eq_true rfl) ?_
    exact W.iret hx hb hr (fun t ht hW => ⟨rfl, by rw [ht]; exact hP, hD, hS.F ht⟩) hS.2.2 dL_toLive_19
