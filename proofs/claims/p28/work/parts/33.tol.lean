set_option maxRecDepth 100000 in
theorem g2X4_toLive_X4_requireNode : GoodIn ws2X4_toLive (wsV RX4 63 RX4 yX4_requireNode wsX4_requireNode) := goodIn_sub (by decide +kernel) (by decide +kernel)
set_option maxRecDepth 100000 in
theorem g2X4_toLive_X1_connectedWith : GoodIn ws2X4_toLive (wsV RX4 207 RX1 yX1_connectedWith wsX1_connectedWith) := goodIn_sub (by decide +kernel) (by decide +kernel)
set_option maxRecDepth 100000 in
theorem g2X4_toLive_X1_nodeCount : GoodIn ws2X4_toLive (wsV RX4 48 RX1 yX1_nodeCount wsX1_nodeCount) := goodIn_sub (by decide +kernel) (by decide +kernel)
set_option maxRecDepth 100000 in
theorem g2X4_toLive_X1_withNeighbours : GoodIn ws2X4_toLive (wsV RX4 218 RX1 yX1_withNeighbours wsX1_withNeighbours) := goodIn_sub (by decide +kernel) (by decide +kernel)
set_option maxRecDepth 100000 in
theorem in2X4_toLive_X3 : ∀ w ∈ wsX30, w ∈ ws2X4_toLive := by decide +kernel
set_option maxRecDepth 100000 in
theorem in2X4_toLive_X4 : ∀ w ∈ wsX40, w ∈ ws2X4_toLive := by decide +kernel
set_option maxRecDepth 100000 in
theorem lk2X4_toLive_0 : (.fieldLink RX4 10 "Switchlog" "net" "LSwitchlog$Net;" : Cond) ∈ ws2X4_toLive := by decide +kernel
set_option maxRecDepth 100000 in
theorem lk2X4_toLive_1 : (.fieldLink RX4 19 "Switchlog" "now" "LSwitchlog$State;" : Cond) ∈ ws2X4_toLive := by decide +kernel
set_option maxRecDepth 100000 in
theorem lk2X4_toLive_2 : (.classLink RX4 221 "java/util/NoSuchElementException" : Cond) ∈ ws2X4_toLive := by decide +kernel
set_option maxRecDepth 100000 in
theorem lk2X4_toLive_3 : (.initialized "java/util/NoSuchElementException" : Cond) ∈ ws2X4_toLive := by decide +kernel
set_option maxRecDepth 100000 in
theorem at2X4_toLive_225 : ∀ w ∈ (zy_at RX4 225 "java/util/NoSuchElementException" 13 zy_rx ["java/lang/RuntimeException", "java/lang/Exception"]).filter goodWord, w ∈ ws2X4_toLive := by decide +kernel
abbrev rm2X4_toLive : Room := { frames := 7, cells := 2, slots := 12, locals := 103 }
set_option maxHeartbeats 4000000 in
set_option maxRecDepth 100000 in
theorem k2X4_toLive (l : Launch) (hl0 : l.stackTraces = false) (D : va_G) (cI cZ cL : ClassId) (sz0 : Nat) (h_x a_don a_wri a_per a_tho a_aft h_net h_ends h_now : Nat) (nc : Int32) (sc : Int32) (br : Int32) (so : Int32) (lo : Int32) (ends : Nat → Int32) (cl : Int32) (ea : Int32) (on : Int32) (p0 : Int32) (N : Nat) {R : String ⊕ ((Int32))} (h : fX4_toLive N nc sc br so lo ends cl ea on p0 = some R) : vx_Met l yX4_toLive ws2X4_toLive rm2X4_toLive (PT D cI cZ cL [.ref h_x, .int p0] [(h_x, .inr (4, [.ref h_net, .ref h_now, .ref a_don, .ref a_wri, .ref a_per, .ref a_tho, .ref a_aft])), (h_net, .inr (1, [.ref h_ends, .int nc, .int sc, .int br, .int so, .int lo])), (h_ends, .inl (cI, 24, .inl ends)), (h_now, .inr (3, [.int cl, .int ea, .int on]))] sz0) (QT D (fun u => some (.int u)) (va_A [(h_x, .inr (4, [.ref h_net, .ref h_now, .ref a_don, .ref a_wri, .ref a_per, .ref a_tho, .ref a_aft])), (h_net, .inr (1, [.ref h_ends, .int nc, .int sc, .int br, .int so, .int lo])), (h_ends, .inl (cI, 24, .inl ends)), (h_now, .inr (3, [.int cl, .int ea, .int on]))] sz0) (fun u : (Int32) => [(h_x, .inr (4, [.ref h_net, .ref h_now, .ref a_don, .ref a_wri, .ref a_per, .ref a_tho, .ref a_aft])), (h_net, .inr (1, [.ref h_ends, .int nc, .int sc, .int br, .int so, .int lo])), (h_ends, .inl (cI, 24, .inl ends)), (h_now, .inr (3, [.int cl, .int ea, .int on]))]) R) (XT D (va_A [(h_x, .inr (4, [.ref h_net, .ref h_now, .ref a_don, .ref a_wri, .ref a_per, .ref a_tho, .ref a_aft])), (h_net, .inr (1, [.ref h_ends, .int nc, .int sc, .int br, .int so, .int lo])), (h_ends, .inl (cI, 24, .inl ends)), (h_now, .inr (3, [.int cl, .int ea, .int on]))] sz0) [(h_x, .inr (4, [.ref h_net, .ref h_now, .ref a_don, .ref a_wri, .ref a_per, .ref a_tho, .ref a_aft])), (h_net, .inr (1, [.ref h_ends, .int nc, .int sc, .int br, .int so, .int lo])), (h_ends, .inl (cI, 24, .inl ends)), (h_now, .inr (3, [.int cl, .int ea, .int on]))] R) 2 12 (va_A [(h_x, .inr (4, [.ref h_net, .ref h_now, .ref a_don, .ref a_wri, .ref a_per, .ref a_tho, .ref a_aft])), (h_net, .inr (1, [.ref h_ends, .int nc, .int sc, .int br, .int so, .int lo])), (h_ends, .inl (cI, 24, .inl ends)), (h_now, .inr (3, [.int cl, .int ea, .int on]))] sz0) := by
  refine vx_ofW (cc := cX4_toLive) (maxL := 4) (ret := (some .int)) (by decide) rfl ?_
  intro p e s m args below meth c s₁ B hml hno hv
  obtain ⟨rfl, hsz, hP, hKK, hD0, hKS, hKZ⟩ := hv
  have hK := hKK.1
  have hx := B.exec
  have hb := B.bytes
  have hr := B.returns
  have hts := atoms_spec (ws := ws2X4_toLive) B.pre
  have hown : s.vm.findClass RX4 = some m.cls := findClass_of_methodNamed B.named
  have hlocks := B.notSynchronized
  subst hsz
  have hD := hD0.self (sz := s.heap.size)
  generalize hAe : va_A [(h_x, .inr (4, [.ref h_net, .ref h_now, .ref a_don, .ref a_wri, .ref a_per, .ref a_tho, .ref a_aft])), (h_net, .inr (1, [.ref h_ends, .int nc, .int sc, .int br, .int so, .int lo])), (h_ends, .inl (cI, 24, .inl ends)), (h_now, .inr (3, [.int cl, .int ea, .int on]))] s.heap.size = A at hD hKZ ⊢
  have hA : ∀ q : Nat, s.heap.size ≤ q → A q := fun q h => by rw [← hAe]; exact Or.inr h
  have hS : va_S A s.heap s.heap [] := va_S.rf
  have hl := lv_entry ([.ref h_x, .int p0]) (n := 4) (Nat.le_of_ble_eq_true rfl)
  rw [lg_entry_eq]
  generalize (lg_sl ([.ref h_x, .int p0]) ++ List.replicate (4 - (lg_sl ([.ref h_x, .int p0])).length) Slot.unset).toArray = ls at hl ⊢
  have hl : lv_has ls 4 [(0, .ref h_x), (1, .int p0)] := hl
  obtain ⟨QQ, hQQ⟩ : ∃ Z, Z = vx_MQ below (QT D (fun u => some (.int u)) A (fun u : (Int32) => [(h_x, .inr (4, [.ref h_net, .ref h_now, .ref a_don, .ref a_wri, .ref a_per, .ref a_tho, .ref a_aft])), (h_net, .inr (1, [.ref h_ends, .int nc, .int sc, .int br, .int so, .int lo])), (h_ends, .inl (cI, 24, .inl ends)), (h_now, .inr (3, [.int cl, .int ea, .int on]))]) R) (XT D A [(h_x, .inr (4, [.ref h_net, .ref h_now, .ref a_don, .ref a_wri, .ref a_per, .ref a_tho, .ref a_aft])), (h_net, .inr (1, [.ref h_ends, .int nc, .int sc, .int br, .int so, .int lo])), (h_ends, .inl (cI, 24, .inl ends)), (h_now, .inr (3, [.int cl, .int ea, .int on]))] R) ([.ref h_x, .int p0] : List Value).toArray s 2 12 A := ⟨_, rfl⟩
  rw [← hQQ]
  obtain ⟨H, locs, hHe, hLe⟩ : ∃ (H : Heap) (locs : List Loc), H = s.heap ∧ locs = [] := ⟨_, _, rfl, rfl⟩
  have hP : va_P D vwCl [(h_x, .inr (4, [.ref h_net, .ref h_now, .ref a_don, .ref a_wri, .ref a_per, .ref a_tho, .ref a_aft])), (h_net, .inr (1, [.ref h_ends, .int nc, .int sc, .int br, .int so, .int lo])), (h_ends, .inl (cI, 24, .inl ends)), (h_now, .inr (3, [.int cl, .int ea, .int on]))] H := by rw [hHe]; exact hP
  have hS : va_S A s.heap H locs := by rw [hHe, hLe]; exact hS
  have hW0 : ∀ QQ : State → Prop, W p l e (headSpec ws2X4_toLive rm2X4_toLive).room s m (([.ref h_x, .int p0] : List Value).toArray) below meth c H locs 0 0 QQ (F0 m 0 ls []) → W p l e (headSpec ws2X4_toLive rm2X4_toLive).room s m (([.ref h_x, .int p0] : List Value).toArray) below meth c s.heap [] 0 0 QQ (F0 m 0 ls []) := by rw [hHe, hLe]; exact fun _ h => h
  refine hW0 _ ?_
  clear hW0
  unfold fX4_toLive at h
  refine lv_aload_n hx hb dX4_toLive_0 rfl (lv_at hl 0 rfl) ?_
  refine lv_iload_n hx hb dX4_toLive_1 rfl (lv_at hl 1 rfl) ?_
  obtain ⟨R2, hq1, hx1, hk1⟩ := bx0_r h
  refine zz_xV (As := [.int p0]) (wr := [(h_ends, .inl (cI, 24, .inl ends)), (h_now, .inr (3, [.int cl, .int ea, .int on]))]) (w1 := fun u : Unit => [(h_x, .inr (4, [.ref h_net, .ref h_now, .ref a_don, .ref a_wri, .ref a_per, .ref a_tho, .ref a_aft])), (h_net, .inr (1, [.ref h_ends, .int nc, .int sc, .int br, .int so, .int lo]))]) (wt' := fun u : Unit => [(h_x, .inr (4, [.ref h_net, .ref h_now, .ref a_don, .ref a_wri, .ref a_per, .ref a_tho, .ref a_aft])), (h_net, .inr (1, [.ref h_ends, .int nc, .int sc, .int br, .int so, .int lo])), (h_ends, .inl (cI, 24, .inl ends)), (h_now, .inr (3, [.int cl, .int ea, .int on]))]) (wc := [(h_x, .inr (4, [.ref h_net, .ref h_now, .ref a_don, .ref a_wri, .ref a_per, .ref a_tho, .ref a_aft])), (h_net, .inr (1, [.ref h_ends, .int nc, .int sc, .int br, .int so, .int lo]))]) (rv := fun _ => none) ⟨hx, hb, hml, hown, hts⟩ (kX4_requireNode l hl0 D cI cZ cL H.size h_x h_now a_don a_wri a_per a_tho a_aft h_net h_ends nc sc br so lo p0 N hq1) (cwV 1 hts g2X4_toLive_X4_requireNode rfl rfl rfl (by decide +kernel) ⟨Nat.le_of_ble_eq_true rfl, Nat.le_of_ble_eq_true rfl⟩) hP hD hS hA hKK hKS hKZ [0, 1] [2, 3] [2, 3, 0, 1] rfl rfl (by decide) (by decide) (fun _ => rfl) rfl (by decide) (by decide) (va_recv hK hP (ci := 4) (q0 := 0) rfl rfl) rfl hl.1 rfl (Nat.le_of_ble_eq_true rfl) dX4_toLive_2 ⟨Nat.le_of_ble_eq_true rfl, Nat.le_of_ble_eq_true rfl⟩ (fun E ce q9 H locs hE hP hD hS h1 h2 h3 => ?_) (fun u H locs hu hP hD hS => ?_)
  · have hE2 := hx1 E hE
    subst hE2
    rw [hQQ]
    exact vx_out (fun x hx => (hno x hx).elim) hlocks h1 h2 h3 (fun t ht hvm => zz_XT hP hD hS (by rw [ht]; exact Nat.le_refl _) (fun q _ => by rw [ht])) hS.2.2 (Nat.le_of_ble_eq_true rfl) (Nat.le_of_ble_eq_true rfl)
  · have h := hk1 _ hu
    have hP : va_P D vwCl [(h_x, .inr (4, [.ref h_net, .ref h_now, .ref a_don, .ref a_wri, .ref a_per, .ref a_tho, .ref a_aft])), (h_net, .inr (1, [.ref h_ends, .int nc, .int sc, .int br, .int so, .int lo])), (h_ends, .inl (cI, 24, .inl ends)), (h_now, .inr (3, [.int cl, .int ea, .int on]))] H := hP
    have hD : va_D A [(h_x, .inr (4, [.ref h_net, .ref h_now, .ref a_don, .ref a_wri, .ref a_per, .ref a_tho, .ref a_aft])), (h_net, .inr (1, [.ref h_ends, .int nc, .int sc, .int br, .int so, .int lo])), (h_ends, .inl (cI, 24, .inl ends)), (h_now, .inr (3, [.int cl, .int ea, .int on]))] := hD
    show W p l e _ s m _ below meth c H locs _ _ QQ (F0 m 5 ls ([]))
    refine lv_aload_n hx hb dX4_toLive_5 rfl (lv_at hl 0 rfl) ?_
    refine va_get (D := D) (ci := 4) (v := .ref h_net) (C := RX4) (T := TX4) (N := 7) hx hb hts in2X4_toLive_X4 hown hK hP 0 rfl rfl 0 (by decide) (hts _ lk2X4_toLive_0) (fun _ h9 => h9) rfl dX4_toLive_6 ?_
    refine lv_iconst (v := 1) hx hb dX4_toLive_9 (by decide) ?_
    refine lv_iload_n hx hb dX4_toLive_10 rfl (lv_at hl 1 rfl) ?_
    refine lv_ishl hx hb dX4_toLive_11 ?_
    refine lv_aload_n hx hb dX4_toLive_12 rfl (lv_at hl 0 rfl) ?_
    refine va_get (D := D) (ci := 4) (v := .ref h_now) (C := RX4) (T := TX4) (N := 7) hx hb hts in2X4_toLive_X4 hown hK hP 0 rfl rfl 1 (by decide) (hts _ lk2X4_toLive_1) (fun _ h9 => h9) rfl dX4_toLive_13 ?_
    obtain ⟨v3, hq4, h⟩ := bd1_e h
    refine zz_cV (As := [.int ((1 : Int32) <<< (p0 &&& 31)), .ref h_now]) ⟨hx, hb, hml, hown, hts⟩ (kX1_connectedWith l D cI cZ cL h_net h_ends h_now nc sc br so lo ends cl ea on ((1 : Int32) <<< (p0 &&& 31)) N hq4) (cwV 2 hts g2X4_toLive_X1_connectedWith rfl rfl rfl (by decide +kernel) ⟨Nat.le_of_ble_eq_true rfl, Nat.le_of_ble_eq_true rfl⟩) (hP.sub (ws' := [(h_net, .inr (1, [.ref h_ends, .int nc, .int sc, .int br, .int so, .int lo])), (h_ends, .inl (cI, 24, .inl ends)), (h_now, .inr (3, [.int cl, .int ea, .int on]))]) [1, 2, 3] rfl) hKK (va_recv hK hP (ci := 1) (q0 := 1) rfl rfl) rfl hl.1 rfl (Nat.le_of_ble_eq_true rfl) dX4_toLive_16 ⟨Nat.le_of_ble_eq_true rfl, Nat.le_of_ble_eq_true rfl⟩ ?_
    refine lv_istore_n (lv' := [(2, .int v3), (0, .ref h_x), (1, .int p0)]) hx hb dX4_toLive_19 rfl hl (by decide) rfl (fun ls hl => ?_)
    refine lv_iconst (v := 0) hx hb dX4_toLive_20 (by decide) ?_
    refine lv_istore_n (lv' := [(3, .int 0), (2, .int v3), (0, .ref h_x), (1, .int p0)]) hx hb dX4_toLive_21 rfl hl (by decide) rfl (fun ls hl => ?_)
    refine it2_e (fun (x5 : Int32) (x6 : Int32) => ∀ (H : Heap) (locs : List Loc) (ls : Array Slot), va_P D vwCl [(h_x, .inr (4, [.ref h_net, .ref h_now, .ref a_don, .ref a_wri, .ref a_per, .ref a_tho, .ref a_aft])), (h_net, .inr (1, [.ref h_ends, .int nc, .int sc, .int br, .int so, .int lo])), (h_ends, .inl (cI, 24, .inl ends)), (h_now, .inr (3, [.int cl, .int ea, .int on]))] H → va_D A [(h_x, .inr (4, [.ref h_net, .ref h_now, .ref a_don, .ref a_wri, .ref a_per, .ref a_tho, .ref a_aft])), (h_net, .inr (1, [.ref h_ends, .int nc, .int sc, .int br, .int so, .int lo])), (h_ends, .inl (cI, 24, .inl ends)), (h_now, .inr (3, [.int cl, .int ea, .int on]))] → va_S A s.heap H locs → lv_has ls 4 [(3, .int x5), (2, .int x6), (0, .ref h_x), (1, .int p0)] → W p l e (headSpec ws2X4_toLive rm2X4_toLive).room s m (([.ref h_x, .int p0] : List Value).toArray) below meth c H locs 1 6 QQ (F0 m 22 ls [])) (fun g22_7 hg22_8 x5 x6 h H locs ls hP hD hS hl => ?_) N 0 v3 h H locs ls hP hD hS (lv_sub hl [0, 1, 2, 3] rfl)
    refine lv_iload_n hx hb dX4_toLive_22 rfl (lv_at hl 0 rfl) ?_
    refine lv_aload_n hx hb dX4_toLive_23 rfl (lv_at hl 2 rfl) ?_
    refine va_get (D := D) (ci := 4) (v := .ref h_net) (C := RX4) (T := TX4) (N := 7) hx hb hts in2X4_toLive_X4 hown hK hP 0 rfl rfl 0 (by decide) (hts _ lk2X4_toLive_0) (fun _ h9 => h9) rfl dX4_toLive_24 ?_
    obtain ⟨v9, hq10, h⟩ := bd1_e h
    refine zz_cV (As := []) ⟨hx, hb, hml, hown, hts⟩ (kX1_nodeCount l D cI cZ cL h_net h_ends nc sc br so lo N hq10) (cwV 0 hts g2X4_toLive_X1_nodeCount rfl rfl rfl (by decide +kernel) ⟨Nat.le_of_ble_eq_true rfl, Nat.le_of_ble_eq_true rfl⟩) (hP.sub (ws' := [(h_net, .inr (1, [.ref h_ends, .int nc, .int sc, .int br, .int so, .int lo]))]) [1] rfl) hKK (va_recv hK hP (ci := 1) (q0 := 1) rfl rfl) rfl hl.1 rfl (Nat.le_of_ble_eq_true rfl) dX4_toLive_27 ⟨Nat.le_of_ble_eq_true rfl, Nat.le_of_ble_eq_true rfl⟩ ?_
    refine lv_icmp_ge (tgt := 73) hx hb dX4_toLive_30 (by decide) (fun c11 => ?_) (fun c11 => ?_)
    · have h := it_t h c11
      cases h
      obtain ⟨sa9, hsa9⟩ := hKS.1 (223, "no way leads to a source that is on") (List.mem_of_getElem? (i := 15) rfl)
      rw [hQQ]
      exact zy_throwS hx hb hl0 zy_0 zy_1 zy_2 zy_5 (A := A) (own := RX4) (cls := "java/util/NoSuchElementException") (text := "no way leads to a source that is on") (names := ["java/lang/RuntimeException", "java/lang/Exception"]) (ik := 221) (is := 223) (ic := 225) hown (by decide +kernel) (by decide +kernel) (hts _ lk2X4_toLive_2) (hts _ lk2X4_toLive_3) hsa9 (hKS.hat (fun w h => hts w (at2X4_toLive_225 w h)) zy_nb) (zy_go 221) hKZ.1 hKZ.2 hS (hl.1.trans hml.symm) dX4_toLive_73 dX4_toLive_76 dX4_toLive_77 dX4_toLive_79 dX4_toLive_82 (fun x hx => (hno x hx).elim) (Nat.le_of_ble_eq_true rfl) (Nat.le_of_ble_eq_true rfl) (Nat.le_of_ble_eq_true rfl) (Nat.le_of_ble_eq_true rfl) hlocks (fun t ht hz hq => zz_XT hP hD hS hz hq) hS.2.2 (Nat.le_of_ble_eq_true rfl) (Nat.le_of_ble_eq_true rfl)
    · have h := it_f h c11
      refine lv_iload_n hx hb dX4_toLive_33 rfl (lv_at hl 1 rfl) ?_
      refine lv_aload_n hx hb dX4_toLive_34 rfl (lv_at hl 2 rfl) ?_
      refine va_get (D := D) (ci := 4) (v := .ref h_now) (C := RX4) (T := TX4) (N := 7) hx hb hts in2X4_toLive_X4 hown hK hP 0 rfl rfl 1 (by decide) (hts _ lk2X4_toLive_1) (fun _ h9 => h9) rfl dX4_toLive_35 ?_
      refine va_getN (D := D) (ci := 3) (v := .int on) (C := RX3) (T := TX3) (N := 3) hx hb hts in2X4_toLive_X3 hown hK hP 3 rfl rfl 2 (by decide) (va_Nw.use rfl hKK.2.2.2.2.1) (fun _ h9 => h9) rfl dX4_toLive_38 ?_
      refine lv_iand hx hb dX4_toLive_41 ?_
      refine lv_if_eq (tgt := 47) hx hb dX4_toLive_42 (by decide) (fun c12 => ?_) (fun c12 => ?_)
      · have h := it_t h c12
        refine lv_aload_n hx hb dX4_toLive_47 rfl (lv_at hl 2 rfl) ?_
        refine va_get (D := D) (ci := 4) (v := .ref h_net) (C := RX4) (T := TX4) (N := 7) hx hb hts in2X4_toLive_X4 hown hK hP 0 rfl rfl 0 (by decide) (hts _ lk2X4_toLive_0) (fun _ h9 => h9) rfl dX4_toLive_48 ?_
        refine lv_aload_n hx hb dX4_toLive_51 rfl (lv_at hl 2 rfl) ?_
        refine va_get (D := D) (ci := 4) (v := .ref h_net) (C := RX4) (T := TX4) (N := 7) hx hb hts in2X4_toLive_X4 hown hK hP 0 rfl rfl 0 (by decide) (hts _ lk2X4_toLive_0) (fun _ h9 => h9) rfl dX4_toLive_52 ?_
        refine lv_iload_n hx hb dX4_toLive_55 rfl (lv_at hl 1 rfl) ?_
        obtain ⟨v13, hq14, h⟩ := bd1_e h
        refine zz_cV (As := [.int x6]) ⟨hx, hb, hml, hown, hts⟩ (kX1_withNeighbours l D cI cZ cL h_net h_ends nc sc br so lo ends x6 N hq14) (cwV 1 hts g2X4_toLive_X1_withNeighbours rfl rfl rfl (by decide +kernel) ⟨Nat.le_of_ble_eq_true rfl, Nat.le_of_ble_eq_true rfl⟩) (hP.sub (ws' := [(h_net, .inr (1, [.ref h_ends, .int nc, .int sc, .int br, .int so, .int lo])), (h_ends, .inl (cI, 24, .inl ends))]) [1, 2] rfl) hKK (va_recv hK hP (ci := 1) (q0 := 1) rfl rfl) rfl hl.1 rfl (Nat.le_of_ble_eq_true rfl) dX4_toLive_56 ⟨Nat.le_of_ble_eq_true rfl, Nat.le_of_ble_eq_true rfl⟩ ?_
        refine lv_aload_n hx hb dX4_toLive_59 rfl (lv_at hl 2 rfl) ?_
        refine va_get (D := D) (ci := 4) (v := .ref h_now) (C := RX4) (T := TX4) (N := 7) hx hb hts in2X4_toLive_X4 hown hK hP 0 rfl rfl 1 (by decide) (hts _ lk2X4_toLive_1) (fun _ h9 => h9) rfl dX4_toLive_60 ?_
        obtain ⟨v15, hq16, h⟩ := bd1_e h
        refine zz_cV (As := [.int v13, .ref h_now]) ⟨hx, hb, hml, hown, hts⟩ (kX1_connectedWith l D cI cZ cL h_net h_ends h_now nc sc br so lo ends cl ea on v13 N hq16) (cwV 2 hts g2X4_toLive_X1_connectedWith rfl rfl rfl (by decide +kernel) ⟨Nat.le_of_ble_eq_true rfl, Nat.le_of_ble_eq_true rfl⟩) (hP.sub (ws' := [(h_net, .inr (1, [.ref h_ends, .int nc, .int sc, .int br, .int so, .int lo])), (h_ends, .inl (cI, 24, .inl ends)), (h_now, .inr (3, [.int cl, .int ea, .int on]))]) [1, 2, 3] rfl) hKK (va_recv hK hP (ci := 1) (q0 := 1) rfl rfl) rfl hl.1 rfl (Nat.le_of_ble_eq_true rfl) dX4_toLive_63 ⟨Nat.le_of_ble_eq_true rfl, Nat.le_of_ble_eq_true rfl⟩ ?_
        refine lv_istore_n (lv' := [(2, .int v15), (3, .int x5), (0, .ref h_x), (1, .int p0)]) hx hb dX4_toLive_66 rfl hl (by decide) rfl (fun ls hl => ?_)
        refine lv_iinc (v := x5 + 1) (lv' := [(3, .int (x5 + 1)), (2, .int v15), (0, .ref h_x), (1, .int p0)]) hx hb dX4_toLive_67 hl (k := 1) rfl rfl (by decide) rfl (fun ls hl => ?_)
        refine lv_goto (tgt := 22) hx hb dX4_toLive_70 (by decide) ?_
        exact hg22_8 (x5 + 1) v15 h H locs ls hP hD hS (lv_sub hl [0, 1, 2, 3] rfl)
      · have h := it_f h c12
        refine lv_iload_n hx hb dX4_toLive_45 rfl (lv_at hl 0 rfl) ?_
        cases h
        rw [hQQ]
        refine vx_ret ?_
        refine W.widen (k := 2) (n := 12) (Nat.le_of_ble_eq_true rfl) (Nat.le_of_ble_eq_true rfl) ?_
        exact W.iret hx hb hr (fun t ht hW => ⟨_, rfl, rfl, by rw [ht]; exact hP, hD, hS.F ht⟩) hS.2.2 dX4_toLive_46
