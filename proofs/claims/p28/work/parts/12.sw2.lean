def fX4_doAndLog (N : Nat) (nc : Int32) (sc : Int32) (br : Int32) (so : Int32) (lo : Int32) (ends : Nat → Int32) (cl : Int32) (ea : Int32) (on : Int32) (ds : Int32) (dac : Nat → Int32) (pg : Int32) (hol : Nat → Int32) (ac : Int32) (ae : Int32) (ao : Int32) (p0 : Int32) : Option ((Int32) × (Int32) × (Int32) × (Int32) × (Int32) × (Nat → Int32) × (Int32) × (Int32) × (Int32)) :=
  bd1 (fX4_kindOf N  p0) (fun v1 => bd1 (fX4_whatOf N  p0) (fun v3 => bd4 (fX4_reasonIn N nc sc br so lo ends pg hol cl ea on ac ae ao v1 v3) (fun v6 w7 w8 w9 => (if v6 = 0 then bd1 (fX4_kindOf N  p0) (fun v11 => bd1 (fX4_whatOf N  p0) (fun v13 => bd3 (fX3_flip N cl ea on v11 v13) (fun w16 w17 w18 => bd2 (fX0_append N ds 200 dac p0) (fun w20 w21 => some (v6, w16, w17, w18, w21, w20, w7, w8, w9))))) else some (v6, cl, ea, on, ds, dac, w7, w8, w9)))))
set_option maxRecDepth 100000 in
theorem inX4_doAndLog_X4 : ∀ w ∈ wsX40, w ∈ wsX4_doAndLog := by decide +kernel
set_option maxRecDepth 100000 in
theorem lkX4_doAndLog_0 : (.fieldLink RX4 19 "Switchlog" "now" "LSwitchlog$State;" : Cond) ∈ wsX4_doAndLog := by decide +kernel
set_option maxRecDepth 100000 in
theorem lkX4_doAndLog_1 : (.fieldLink RX4 28 "Switchlog" "done" "LSwitchlog$ActRow;" : Cond) ∈ wsX4_doAndLog := by decide +kernel
abbrev rmX4_doAndLog : Room := { frames := 5, cells := 0, slots := 0, locals := 119 }
set_option maxHeartbeats 4000000 in
set_option maxRecDepth 100000 in
theorem kX4_doAndLog (l : Launch) (D : va_G) (cI cZ cL : ClassId) (sz0 : Nat) (h_x a_wri a_tho h_net h_ends h_now h_don h_dac h_per h_hol h_aft : Nat) (nc : Int32) (sc : Int32) (br : Int32) (so : Int32) (lo : Int32) (ends : Nat → Int32) (cl : Int32) (ea : Int32) (on : Int32) (ds : Int32) (dac : Nat → Int32) (pg : Int32) (hol : Nat → Int32) (ac : Int32) (ae : Int32) (ao : Int32) (p0 : Int32) (N : Nat) {r : Int32} {r_0 : Int32} {r_1 : Int32} {r_2 : Int32} {r_3 : Int32} {r_4 : Nat → Int32} {r_5 : Int32} {r_6 : Int32} {r_7 : Int32} (h : fX4_doAndLog N nc sc br so lo ends cl ea on ds dac pg hol ac ae ao p0 = some (r, r_0, r_1, r_2, r_3, r_4, r_5, r_6, r_7)) : Met l yX4_doAndLog wsX4_doAndLog rmX4_doAndLog (PM D cI cZ cL [.ref h_x, .int p0] [(h_x, .inr (4, [.ref h_net, .ref h_now, .ref h_don, .ref a_wri, .ref h_per, .ref a_tho, .ref h_aft])), (h_net, .inr (1, [.ref h_ends, .int nc, .int sc, .int br, .int so, .int lo])), (h_ends, .inl (cI, 24, .inl ends)), (h_now, .inr (3, [.int cl, .int ea, .int on])), (h_don, .inr (0, [.ref h_dac, .int ds])), (h_dac, .inl (cI, 200, .inl dac)), (h_per, .inr (2, [.ref h_hol, .int pg])), (h_hol, .inl (cI, 10, .inl hol)), (h_aft, .inr (3, [.int ac, .int ae, .int ao]))] sz0) (QM D (some (.int r)) (va_A [(h_x, .inr (4, [.ref h_net, .ref h_now, .ref h_don, .ref a_wri, .ref h_per, .ref a_tho, .ref h_aft])), (h_net, .inr (1, [.ref h_ends, .int nc, .int sc, .int br, .int so, .int lo])), (h_ends, .inl (cI, 24, .inl ends)), (h_now, .inr (3, [.int cl, .int ea, .int on])), (h_don, .inr (0, [.ref h_dac, .int ds])), (h_dac, .inl (cI, 200, .inl dac)), (h_per, .inr (2, [.ref h_hol, .int pg])), (h_hol, .inl (cI, 10, .inl hol)), (h_aft, .inr (3, [.int ac, .int ae, .int ao]))] sz0) [(h_x, .inr (4, [.ref h_net, .ref h_now, .ref h_don, .ref a_wri, .ref h_per, .ref a_tho, .ref h_aft])), (h_net, .inr (1, [.ref h_ends, .int nc, .int sc, .int br, .int so, .int lo])), (h_ends, .inl (cI, 24, .inl ends)), (h_now, .inr (3, [.int r_0, .int r_1, .int r_2])), (h_don, .inr (0, [.ref h_dac, .int r_3])), (h_dac, .inl (cI, 200, .inl r_4)), (h_per, .inr (2, [.ref h_hol, .int pg])), (h_hol, .inl (cI, 10, .inl hol)), (h_aft, .inr (3, [.int r_5, .int r_6, .int r_7]))]) 0 0 (va_A [(h_x, .inr (4, [.ref h_net, .ref h_now, .ref h_don, .ref a_wri, .ref h_per, .ref a_tho, .ref h_aft])), (h_net, .inr (1, [.ref h_ends, .int nc, .int sc, .int br, .int so, .int lo])), (h_ends, .inl (cI, 24, .inl ends)), (h_now, .inr (3, [.int cl, .int ea, .int on])), (h_don, .inr (0, [.ref h_dac, .int ds])), (h_dac, .inl (cI, 200, .inl dac)), (h_per, .inr (2, [.ref h_hol, .int pg])), (h_hol, .inl (cI, 10, .inl hol)), (h_aft, .inr (3, [.int ac, .int ae, .int ao]))] sz0) := by
  refine Met.ofW (cc := cX4_doAndLog) (maxL := 3) (ret := (some .int)) (by decide) rfl ?_
  intro p e s m args below meth c s₁ B hml hv
  obtain ⟨rfl, hsz, hP, hKK, hD0⟩ := hv
  have hK := hKK.1
  have hx := B.exec
  have hb := B.bytes
  have hr := B.returns
  have hts := atoms_spec (ws := wsX4_doAndLog) B.pre
  have hown : s.vm.findClass RX4 = some m.cls := findClass_of_methodNamed B.named
  have hlocks := B.notSynchronized
  subst hsz
  have hD := hD0.self (sz := s.heap.size)
  generalize hAe : va_A [(h_x, .inr (4, [.ref h_net, .ref h_now, .ref h_don, .ref a_wri, .ref h_per, .ref a_tho, .ref h_aft])), (h_net, .inr (1, [.ref h_ends, .int nc, .int sc, .int br, .int so, .int lo])), (h_ends, .inl (cI, 24, .inl ends)), (h_now, .inr (3, [.int cl, .int ea, .int on])), (h_don, .inr (0, [.ref h_dac, .int ds])), (h_dac, .inl (cI, 200, .inl dac)), (h_per, .inr (2, [.ref h_hol, .int pg])), (h_hol, .inl (cI, 10, .inl hol)), (h_aft, .inr (3, [.int ac, .int ae, .int ao]))] s.heap.size = A at hD ⊢
  have hA : ∀ q : Nat, s.heap.size ≤ q → A q := fun q h => by rw [← hAe]; exact Or.inr h
  have hS : va_S A s.heap s.heap [] := va_S.rf
  have hl := lv_entry ([.ref h_x, .int p0]) (n := 3) (Nat.le_of_ble_eq_true rfl)
  rw [lg_entry_eq]
  generalize (lg_sl ([.ref h_x, .int p0]) ++ List.replicate (3 - (lg_sl ([.ref h_x, .int p0])).length) Slot.unset).toArray = ls at hl ⊢
  have hl : lv_has ls 3 [(0, .ref h_x), (1, .int p0)] := hl
  obtain ⟨QQ, hQQ⟩ : ∃ Z, Z = MQ below (QM D (some (.int r)) A [(h_x, .inr (4, [.ref h_net, .ref h_now, .ref h_don, .ref a_wri, .ref h_per, .ref a_tho, .ref h_aft])), (h_net, .inr (1, [.ref h_ends, .int nc, .int sc, .int br, .int so, .int lo])), (h_ends, .inl (cI, 24, .inl ends)), (h_now, .inr (3, [.int r_0, .int r_1, .int r_2])), (h_don, .inr (0, [.ref h_dac, .int r_3])), (h_dac, .inl (cI, 200, .inl r_4)), (h_per, .inr (2, [.ref h_hol, .int pg])), (h_hol, .inl (cI, 10, .inl hol)), (h_aft, .inr (3, [.int r_5, .int r_6, .int r_7]))]) ([.ref h_x, .int p0] : List Value).toArray s 0 0 A := ⟨_, rfl⟩
  rw [← hQQ]
  obtain ⟨H, locs, hHe, hLe⟩ : ∃ (H : Heap) (locs : List Loc), H = s.heap ∧ locs = [] := ⟨_, _, rfl, rfl⟩
  have hP : va_P D vwCl [(h_x, .inr (4, [.ref h_net, .ref h_now, .ref h_don, .ref a_wri, .ref h_per, .ref a_tho, .ref h_aft])), (h_net, .inr (1, [.ref h_ends, .int nc, .int sc, .int br, .int so, .int lo])), (h_ends, .inl (cI, 24, .inl ends)), (h_now, .inr (3, [.int cl, .int ea, .int on])), (h_don, .inr (0, [.ref h_dac, .int ds])), (h_dac, .inl (cI, 200, .inl dac)), (h_per, .inr (2, [.ref h_hol, .int pg])), (h_hol, .inl (cI, 10, .inl hol)), (h_aft, .inr (3, [.int ac, .int ae, .int ao]))] H := by rw [hHe]; exact hP
  have hS : va_S A s.heap H locs := by rw [hHe, hLe]; exact hS
  have hW0 : ∀ QQ : State → Prop, W p l e (headSpec wsX4_doAndLog rmX4_doAndLog).room s m (([.ref h_x, .int p0] : List Value).toArray) below meth c H locs 0 0 QQ (F0 m 0 ls []) → W p l e (headSpec wsX4_doAndLog rmX4_doAndLog).room s m (([.ref h_x, .int p0] : List Value).toArray) below meth c s.heap [] 0 0 QQ (F0 m 0 ls []) := by rw [hHe, hLe]; exact fun _ h => h
  refine hW0 _ ?_
  clear hW0
  unfold fX4_doAndLog at h
  refine lv_aload_n hx hb dX4_doAndLog_0 rfl (lv_at hl 0 rfl) ?_
  refine lv_aload_n hx hb dX4_doAndLog_1 rfl (lv_at hl 0 rfl) ?_
  refine va_get (D := D) (ci := 4) (v := .ref h_now) (C := RX4) (T := TX4) (N := 7) hx hb hts inX4_doAndLog_X4 hown hK hP 0 rfl rfl 1 (by decide) (hts _ lkX4_doAndLog_0) (fun _ h9 => h9) rfl dX4_doAndLog_2 ?_
  refine lv_iload_n hx hb dX4_doAndLog_5 rfl (lv_at hl 1 rfl) ?_
  obtain ⟨v1, hq2, h⟩ := bd1_e h
  refine zz_cS (As := [.int p0]) ⟨hx, hb, hml, hown, hts⟩ (kX4_kindOf l D cI cZ cL p0 N hq2) (va_cwS 1 hts gX4_doAndLog_X4_kindOf rfl rfl rfl (by decide +kernel) ⟨Nat.le_of_ble_eq_true rfl, Nat.le_of_ble_eq_true rfl⟩) (hP.sub (ws' := []) [] rfl) hKK rfl hl.1 rfl (Nat.le_of_ble_eq_true rfl) dX4_doAndLog_6 ⟨Nat.le_of_ble_eq_true rfl, Nat.le_of_ble_eq_true rfl⟩ ?_
  refine lv_iload_n hx hb dX4_doAndLog_9 rfl (lv_at hl 1 rfl) ?_
  obtain ⟨v3, hq4, h⟩ := bd1_e h
  refine zz_cS (As := [.int p0]) ⟨hx, hb, hml, hown, hts⟩ (kX4_whatOf l D cI cZ cL p0 N hq4) (va_cwS 1 hts gX4_doAndLog_X4_whatOf rfl rfl rfl (by decide +kernel) ⟨Nat.le_of_ble_eq_true rfl, Nat.le_of_ble_eq_true rfl⟩) (hP.sub (ws' := []) [] rfl) hKK rfl hl.1 rfl (Nat.le_of_ble_eq_true rfl) dX4_doAndLog_10 ⟨Nat.le_of_ble_eq_true rfl, Nat.le_of_ble_eq_true rfl⟩ ?_
  obtain ⟨v6, w7, w8, w9, hq5, h⟩ := bd4_e h
  refine zz_mV (As := [.ref h_now, .int v1, .int v3]) (wr := [(h_don, .inr (0, [.ref h_dac, .int ds])), (h_dac, .inl (cI, 200, .inl dac))]) (w1 := [(h_x, .inr (4, [.ref h_net, .ref h_now, .ref h_don, .ref a_wri, .ref h_per, .ref a_tho, .ref h_aft])), (h_net, .inr (1, [.ref h_ends, .int nc, .int sc, .int br, .int so, .int lo])), (h_ends, .inl (cI, 24, .inl ends)), (h_per, .inr (2, [.ref h_hol, .int pg])), (h_hol, .inl (cI, 10, .inl hol)), (h_now, .inr (3, [.int cl, .int ea, .int on])), (h_aft, .inr (3, [.int w7, .int w8, .int w9]))]) (wt' := [(h_x, .inr (4, [.ref h_net, .ref h_now, .ref h_don, .ref a_wri, .ref h_per, .ref a_tho, .ref h_aft])), (h_net, .inr (1, [.ref h_ends, .int nc, .int sc, .int br, .int so, .int lo])), (h_ends, .inl (cI, 24, .inl ends)), (h_now, .inr (3, [.int cl, .int ea, .int on])), (h_don, .inr (0, [.ref h_dac, .int ds])), (h_dac, .inl (cI, 200, .inl dac)), (h_per, .inr (2, [.ref h_hol, .int pg])), (h_hol, .inl (cI, 10, .inl hol)), (h_aft, .inr (3, [.int w7, .int w8, .int w9]))]) (wc := [(h_x, .inr (4, [.ref h_net, .ref h_now, .ref h_don, .ref a_wri, .ref h_per, .ref a_tho, .ref h_aft])), (h_net, .inr (1, [.ref h_ends, .int nc, .int sc, .int br, .int so, .int lo])), (h_ends, .inl (cI, 24, .inl ends)), (h_per, .inr (2, [.ref h_hol, .int pg])), (h_hol, .inl (cI, 10, .inl hol)), (h_now, .inr (3, [.int cl, .int ea, .int on])), (h_aft, .inr (3, [.int ac, .int ae, .int ao]))]) (rv := (some (.int v6))) ⟨hx, hb, hml, hown, hts⟩ (kX4_reasonIn l D cI cZ cL H.size h_x h_now h_don a_wri a_tho h_net h_ends h_per h_hol h_now h_aft nc sc br so lo ends pg hol cl ea on ac ae ao v1 v3 N hq5) (cwV 3 hts gX4_doAndLog_X4_reasonIn rfl rfl rfl (by decide +kernel) ⟨Nat.le_of_ble_eq_true rfl, Nat.le_of_ble_eq_true rfl⟩) hP hD hS hA hKK [0, 1, 2, 6, 7, 3, 8] [4, 5] [2, 3, 4, 7, 0, 1, 5, 6, 8] rfl rfl (by decide) (by decide) rfl (by decide) (by decide) (va_recv hK hP (ci := 4) (q0 := 0) rfl rfl) rfl hl.1 rfl (Nat.le_of_ble_eq_true rfl) dX4_doAndLog_13 ⟨Nat.le_of_ble_eq_true rfl, Nat.le_of_ble_eq_true rfl⟩ (fun H locs hP hD hS hz9 => ?_)
  show W p l e _ s m _ below meth c H locs _ _ QQ (F0 m 16 ls (.int v6 :: []))
  refine lv_istore_n (lv' := [(2, .int v6), (0, .ref h_x), (1, .int p0)]) hx hb dX4_doAndLog_16 rfl hl (by decide) rfl (fun ls hl => ?_)
  refine lv_iload_n hx hb dX4_doAndLog_17 rfl (lv_at hl 0 rfl) ?_
  refine lv_if_ne (tgt := 44) hx hb dX4_doAndLog_18 (by decide) (fun c10 => ?_) (fun c10 => ?_)
  · have h := it_f h c10
    refine lv_iload_n hx hb dX4_doAndLog_44 rfl (lv_at hl 0 rfl) ?_
    cases h
    rw [hQQ]
    exact W.iret hx hb hr (fun t ht hW => ⟨rfl, by rw [ht]; exact hP, hD, hS.F ht⟩) hS.2.2 dX4_doAndLog_45
  · have h := it_t h c10
    refine lv_aload_n hx hb dX4_doAndLog_21 rfl (lv_at hl 1 rfl) ?_
    refine va_get (D := D) (ci := 4) (v := .ref h_now) (C := RX4) (T := TX4) (N := 7) hx hb hts inX4_doAndLog_X4 hown hK hP 0 rfl rfl 1 (by decide) (hts _ lkX4_doAndLog_0) (fun _ h9 => h9) rfl dX4_doAndLog_22 ?_
    refine lv_iload_n hx hb dX4_doAndLog_25 rfl (lv_at hl 2 rfl) ?_
    obtain ⟨v11, hq12, h⟩ := bd1_e h
    refine zz_cS (As := [.int p0]) ⟨hx, hb, hml, hown, hts⟩ (kX4_kindOf l D cI cZ cL p0 N hq12) (va_cwS 1 hts gX4_doAndLog_X4_kindOf rfl rfl rfl (by decide +kernel) ⟨Nat.le_of_ble_eq_true rfl, Nat.le_of_ble_eq_true rfl⟩) (hP.sub (ws' := []) [] rfl) hKK rfl hl.1 rfl (Nat.le_of_ble_eq_true rfl) dX4_doAndLog_26 ⟨Nat.le_of_ble_eq_true rfl, Nat.le_of_ble_eq_true rfl⟩ ?_
    refine lv_iload_n hx hb dX4_doAndLog_29 rfl (lv_at hl 2 rfl) ?_
    obtain ⟨v13, hq14, h⟩ := bd1_e h
    refine zz_cS (As := [.int p0]) ⟨hx, hb, hml, hown, hts⟩ (kX4_whatOf l D cI cZ cL p0 N hq14) (va_cwS 1 hts gX4_doAndLog_X4_whatOf rfl rfl rfl (by decide +kernel) ⟨Nat.le_of_ble_eq_true rfl, Nat.le_of_ble_eq_true rfl⟩) (hP.sub (ws' := []) [] rfl) hKK rfl hl.1 rfl (Nat.le_of_ble_eq_true rfl) dX4_doAndLog_30 ⟨Nat.le_of_ble_eq_true rfl, Nat.le_of_ble_eq_true rfl⟩ ?_
    obtain ⟨w16, w17, w18, hq15, h⟩ := bd3_e h
    refine zz_mV (As := [.int v11, .int v13]) (wr := [(h_x, .inr (4, [.ref h_net, .ref h_now, .ref h_don, .ref a_wri, .ref h_per, .ref a_tho, .ref h_aft])), (h_net, .inr (1, [.ref h_ends, .int nc, .int sc, .int br, .int so, .int lo])), (h_ends, .inl (cI, 24, .inl ends)), (h_don, .inr (0, [.ref h_dac, .int ds])), (h_dac, .inl (cI, 200, .inl dac)), (h_per, .inr (2, [.ref h_hol, .int pg])), (h_hol, .inl (cI, 10, .inl hol)), (h_aft, .inr (3, [.int w7, .int w8, .int w9]))]) (w1 := [(h_now, .inr (3, [.int w16, .int w17, .int w18]))]) (wt' := [(h_x, .inr (4, [.ref h_net, .ref h_now, .ref h_don, .ref a_wri, .ref h_per, .ref a_tho, .ref h_aft])), (h_net, .inr (1, [.ref h_ends, .int nc, .int sc, .int br, .int so, .int lo])), (h_ends, .inl (cI, 24, .inl ends)), (h_now, .inr (3, [.int w16, .int w17, .int w18])), (h_don, .inr (0, [.ref h_dac, .int ds])), (h_dac, .inl (cI, 200, .inl dac)), (h_per, .inr (2, [.ref h_hol, .int pg])), (h_hol, .inl (cI, 10, .inl hol)), (h_aft, .inr (3, [.int w7, .int w8, .int w9]))]) (wc := [(h_now, .inr (3, [.int cl, .int ea, .int on]))]) (rv := none) ⟨hx, hb, hml, hown, hts⟩ (kX3_flip l D cI cZ cL H.size h_now cl ea on v11 v13 N hq15) (cwV 2 hts gX4_doAndLog_X3_flip rfl rfl rfl (by decide +kernel) ⟨Nat.le_of_ble_eq_true rfl, Nat.le_of_ble_eq_true rfl⟩) hP hD hS hA hKK [3] [0, 1, 2, 4, 5, 6, 7, 8] [0, 1, 2, 8, 3, 4, 5, 6, 7] rfl rfl (by decide) (by decide) rfl (by decide) (by decide) (va_recv hK hP (ci := 3) (q0 := 3) rfl rfl) rfl hl.1 rfl (Nat.le_of_ble_eq_true rfl) dX4_doAndLog_33 ⟨Nat.le_of_ble_eq_true rfl, Nat.le_of_ble_eq_true rfl⟩ (fun H locs hP hD hS hz9 => ?_)
    show W p l e _ s m _ below meth c H locs _ _ QQ (F0 m 36 ls [])
    refine lv_aload_n hx hb dX4_doAndLog_36 rfl (lv_at hl 1 rfl) ?_
    refine va_get (D := D) (ci := 4) (v := .ref h_don) (C := RX4) (T := TX4) (N := 7) hx hb hts inX4_doAndLog_X4 hown hK hP 0 rfl rfl 2 (by decide) (hts _ lkX4_doAndLog_1) (fun _ h9 => h9) rfl dX4_doAndLog_37 ?_
    refine lv_iload_n hx hb dX4_doAndLog_40 rfl (lv_at hl 2 rfl) ?_
    obtain ⟨w20, w21, hq19, h⟩ := bd2_e h
    refine zz_mV (As := [.int p0]) (wr := [(h_x, .inr (4, [.ref h_net, .ref h_now, .ref h_don, .ref a_wri, .ref h_per, .ref a_tho, .ref h_aft])), (h_net, .inr (1, [.ref h_ends, .int nc, .int sc, .int br, .int so, .int lo])), (h_ends, .inl (cI, 24, .inl ends)), (h_now, .inr (3, [.int w16, .int w17, .int w18])), (h_per, .inr (2, [.ref h_hol, .int pg])), (h_hol, .inl (cI, 10, .inl hol)), (h_aft, .inr (3, [.int w7, .int w8, .int w9]))]) (w1 := [(h_don, .inr (0, [.ref h_dac, .int w21])), (h_dac, .inl (cI, 200, .inl w20))]) (wt' := [(h_x, .inr (4, [.ref h_net, .ref h_now, .ref h_don, .ref a_wri, .ref h_per, .ref a_tho, .ref h_aft])), (h_net, .inr (1, [.ref h_ends, .int nc, .int sc, .int br, .int so, .int lo])), (h_ends, .inl (cI, 24, .inl ends)), (h_now, .inr (3, [.int w16, .int w17, .int w18])), (h_don, .inr (0, [.ref h_dac, .int w21])), (h_dac, .inl (cI, 200, .inl w20)), (h_per, .inr (2, [.ref h_hol, .int pg])), (h_hol, .inl (cI, 10, .inl hol)), (h_aft, .inr (3, [.int w7, .int w8, .int w9]))]) (wc := [(h_don, .inr (0, [.ref h_dac, .int ds])), (h_dac, .inl (cI, 200, .inl dac))]) (rv := none) ⟨hx, hb, hml, hown, hts⟩ (kX0_append l D cI cZ cL H.size h_don h_dac ds 200 dac p0 N hq19) (cwV 1 hts gX4_doAndLog_X0_append rfl rfl rfl (by decide +kernel) ⟨Nat.le_of_ble_eq_true rfl, Nat.le_of_ble_eq_true rfl⟩) hP hD hS hA hKK [4, 5] [0, 1, 2, 3, 6, 7, 8] [0, 1, 2, 3, 7, 8, 4, 5, 6] rfl rfl (by decide) (by decide) rfl (by decide) (by decide) (va_recv hK hP (ci := 0) (q0 := 4) rfl rfl) rfl hl.1 rfl (Nat.le_of_ble_eq_true rfl) dX4_doAndLog_41 ⟨Nat.le_of_ble_eq_true rfl, Nat.le_of_ble_eq_true rfl⟩ (fun H locs hP hD hS hz9 => ?_)
    show W p l e _ s m _ below meth c H locs _ _ QQ (F0 m 44 ls [])
    refine lv_iload_n hx hb dX4_doAndLog_44 rfl (lv_at hl 0 rfl) ?_
    cases h
    rw [hQQ]
    exact W.iret hx hb hr (fun t ht hW => ⟨rfl, by rw [ht]; exact hP, hD, hS.F ht⟩) hS.2.2 dX4_doAndLog_45

def fX4_erase (N : Nat) (rs : Int32) (rac : Nat → Int32) : Option ((Int32) × (Int32) × (Nat → Int32)) :=
  bd1 (fX0_size N rs) (fun v1 => bd2 (fX0_dropFirst N rs 30 rac v1) (fun w4 w5 => some (v1, w5, w4)))
set_option maxRecDepth 100000 in
theorem inX4_erase_X4 : ∀ w ∈ wsX40, w ∈ wsX4_erase := by decide +kernel
set_option maxRecDepth 100000 in
theorem lkX4_erase_0 : (.fieldLink RX4 32 "Switchlog" "written" "LSwitchlog$ActRow;" : Cond) ∈ wsX4_erase := by decide +kernel
abbrev rmX4_erase : Room := { frames := 1, cells := 0, slots := 0, locals := 22 }
set_option maxHeartbeats 4000000 in
set_option maxRecDepth 100000 in
theorem kX4_erase (l : Launch) (D : va_G) (cI cZ cL : ClassId) (sz0 : Nat) (h_x a_net a_now a_don a_per a_tho a_aft h_wri h_rac : Nat) (rs : Int32) (rac : Nat → Int32)  (N : Nat) {r : Int32} {r_0 : Int32} {r_1 : Nat → Int32} (h : fX4_erase N rs rac  = some (r, r_0, r_1)) : Met l yX4_erase wsX4_erase rmX4_erase (PM D cI cZ cL [.ref h_x] [(h_x, .inr (4, [.ref a_net, .ref a_now, .ref a_don, .ref h_wri, .ref a_per, .ref a_tho, .ref a_aft])), (h_wri, .inr (0, [.ref h_rac, .int rs])), (h_rac, .inl (cI, 30, .inl rac))] sz0) (QM D (some (.int r)) (va_A [(h_x, .inr (4, [.ref a_net, .ref a_now, .ref a_don, .ref h_wri, .ref a_per, .ref a_tho, .ref a_aft])), (h_wri, .inr (0, [.ref h_rac, .int rs])), (h_rac, .inl (cI, 30, .inl rac))] sz0) [(h_x, .inr (4, [.ref a_net, .ref a_now, .ref a_don, .ref h_wri, .ref a_per, .ref a_tho, .ref a_aft])), (h_wri, .inr (0, [.ref h_rac, .int r_0])), (h_rac, .inl (cI, 30, .inl r_1))]) 0 0 (va_A [(h_x, .inr (4, [.ref a_net, .ref a_now, .ref a_don, .ref h_wri, .ref a_per, .ref a_tho, .ref a_aft])), (h_wri, .inr (0, [.ref h_rac, .int rs])), (h_rac, .inl (cI, 30, .inl rac))] sz0) := by
  refine Met.ofW (cc := cX4_erase) (maxL := 2) (ret := (some .int)) (by decide) rfl ?_
  intro p e s m args below meth c s₁ B hml hv
  obtain ⟨rfl, hsz, hP, hKK, hD0⟩ := hv
  have hK := hKK.1
  have hx := B.exec
  have hb := B.bytes
  have hr := B.returns
  have hts := atoms_spec (ws := wsX4_erase) B.pre
  have hown : s.vm.findClass RX4 = some m.cls := findClass_of_methodNamed B.named
  have hlocks := B.notSynchronized
  subst hsz
  have hD := hD0.self (sz := s.heap.size)
  generalize hAe : va_A [(h_x, .inr (4, [.ref a_net, .ref a_now, .ref a_don, .ref h_wri, .ref a_per, .ref a_tho, .ref a_aft])), (h_wri, .inr (0, [.ref h_rac, .int rs])), (h_rac, .inl (cI, 30, .inl rac))] s.heap.size = A at hD ⊢
  have hA : ∀ q : Nat, s.heap.size ≤ q → A q := fun q h => by rw [← hAe]; exact Or.inr h
  have hS : va_S A s.heap s.heap [] := va_S.rf
  have hl := lv_entry ([.ref h_x]) (n := 2) (Nat.le_of_ble_eq_true rfl)
  rw [lg_entry_eq]
  generalize (lg_sl ([.ref h_x]) ++ List.replicate (2 - (lg_sl ([.ref h_x])).length) Slot.unset).toArray = ls at hl ⊢
  have hl : lv_has ls 2 [(0, .ref h_x)] := hl
  obtain ⟨QQ, hQQ⟩ : ∃ Z, Z = MQ below (QM D (some (.int r)) A [(h_x, .inr (4, [.ref a_net, .ref a_now, .ref a_don, .ref h_wri, .ref a_per, .ref a_tho, .ref a_aft])), (h_wri, .inr (0, [.ref h_rac, .int r_0])), (h_rac, .inl (cI, 30, .inl r_1))]) ([.ref h_x] : List Value).toArray s 0 0 A := ⟨_, rfl⟩
  rw [← hQQ]
  obtain ⟨H, locs, hHe, hLe⟩ : ∃ (H : Heap) (locs : List Loc), H = s.heap ∧ locs = [] := ⟨_, _, rfl, rfl⟩
  have hP : va_P D vwCl [(h_x, .inr (4, [.ref a_net, .ref a_now, .ref a_don, .ref h_wri, .ref a_per, .ref a_tho, .ref a_aft])), (h_wri, .inr (0, [.ref h_rac, .int rs])), (h_rac, .inl (cI, 30, .inl rac))] H := by rw [hHe]; exact hP
  have hS : va_S A s.heap H locs := by rw [hHe, hLe]; exact hS
  have hW0 : ∀ QQ : State → Prop, W p l e (headSpec wsX4_erase rmX4_erase).room s m (([.ref h_x] : List Value).toArray) below meth c H locs 0 0 QQ (F0 m 0 ls []) → W p l e (headSpec wsX4_erase rmX4_erase).room s m (([.ref h_x] : List Value).toArray) below meth c s.heap [] 0 0 QQ (F0 m 0 ls []) := by rw [hHe, hLe]; exact fun _ h => h
  refine hW0 _ ?_
  clear hW0
  unfold fX4_erase at h
  refine lv_aload_n hx hb dX4_erase_0 rfl (lv_at hl 0 rfl) ?_
  refine va_get (D := D) (ci := 4) (v := .ref h_wri) (C := RX4) (T := TX4) (N := 7) hx hb hts inX4_erase_X4 hown hK hP 0 rfl rfl 3 (by decide) (hts _ lkX4_erase_0) (fun _ h9 => h9) rfl dX4_erase_1 ?_
  obtain ⟨v1, hq2, h⟩ := bd1_e h
  refine zz_cV (As := []) ⟨hx, hb, hml, hown, hts⟩ (kX0_size l D cI cZ cL h_wri h_rac rs N hq2) (cwV 0 hts gX4_erase_X0_size rfl rfl rfl (by decide +kernel) ⟨Nat.le_of_ble_eq_true rfl, Nat.le_of_ble_eq_true rfl⟩) (hP.sub (ws' := [(h_wri, .inr (0, [.ref h_rac, .int rs]))]) [1] rfl) hKK (va_recv hK hP (ci := 0) (q0 := 1) rfl rfl) rfl hl.1 rfl (Nat.le_of_ble_eq_true rfl) dX4_erase_4 ⟨Nat.le_of_ble_eq_true rfl, Nat.le_of_ble_eq_true rfl⟩ ?_
  refine lv_istore_n (lv' := [(1, .int v1), (0, .ref h_x)]) hx hb dX4_erase_7 rfl hl (by decide) rfl (fun ls hl => ?_)
  refine lv_aload_n hx hb dX4_erase_8 rfl (lv_at hl 1 rfl) ?_
  refine va_get (D := D) (ci := 4) (v := .ref h_wri) (C := RX4) (T := TX4) (N := 7) hx hb hts inX4_erase_X4 hown hK hP 0 rfl rfl 3 (by decide) (hts _ lkX4_erase_0) (fun _ h9 => h9) rfl dX4_erase_9 ?_
  refine lv_iload_n hx hb dX4_erase_12 rfl (lv_at hl 0 rfl) ?_
  obtain ⟨w4, w5, hq3, h⟩ := bd2_e h
  refine zz_mV (As := [.int v1]) (wr := [(h_x, .inr (4, [.ref a_net, .ref a_now, .ref a_don, .ref h_wri, .ref a_per, .ref a_tho, .ref a_aft]))]) (w1 := [(h_wri, .inr (0, [.ref h_rac, .int w5])), (h_rac, .inl (cI, 30, .inl w4))]) (wt' := [(h_x, .inr (4, [.ref a_net, .ref a_now, .ref a_don, .ref h_wri, .ref a_per, .ref a_tho, .ref a_aft])), (h_wri, .inr (0, [.ref h_rac, .int w5])), (h_rac, .inl (cI, 30, .inl w4))]) (wc := [(h_wri, .inr (0, [.ref h_rac, .int rs])), (h_rac, .inl (cI, 30, .inl rac))]) (rv := none) ⟨hx, hb, hml, hown, hts⟩ (kX0_dropFirst l D cI cZ cL H.size h_wri h_rac rs 30 rac v1 N hq3) (cwV 1 hts gX4_erase_X0_dropFirst rfl rfl rfl (by decide +kernel) ⟨Nat.le_of_ble_eq_true rfl, Nat.le_of_ble_eq_true rfl⟩) hP hD hS hA hKK [1, 2] [0] [0, 1, 2] rfl rfl (by decide) (by decide) rfl (by decide) (by decide) (va_recv hK hP (ci := 0) (q0 := 1) rfl rfl) rfl hl.1 rfl (Nat.le_of_ble_eq_true rfl) dX4_erase_13 ⟨Nat.le_of_ble_eq_true rfl, Nat.le_of_ble_eq_true rfl⟩ (fun H locs hP hD hS hz9 => ?_)
  show W p l e _ s m _ below meth c H locs _ _ QQ (F0 m 16 ls [])
  refine lv_iload_n hx hb dX4_erase_16 rfl (lv_at hl 0 rfl) ?_
  cases h
  rw [hQQ]
  exact W.iret hx hb hr (fun t ht hW => ⟨rfl, by rw [ht]; exact hP, hD, hS.F ht⟩) hS.2.2 dX4_erase_17

def fX4_check (N : Nat) (nc : Int32) (sc : Int32) (br : Int32) (so : Int32) (lo : Int32) (ends : Nat → Int32) (cl : Int32) (ea : Int32) (on : Int32) (rs : Int32) (rac : Nat → Int32) (pg : Int32) (hol : Nat → Int32) (tc : Int32) (te : Int32) (to : Int32) (ac : Int32) (ae : Int32) (ao : Int32) : Option ((Int32) × (Int32) × (Int32) × (Int32) × (Int32) × (Int32) × (Int32)) :=
  bd3 (fX3_copyFrom N tc te to cl ea on) (fun w2 w3 w4 => it7 (fun g13_12 (x5 : Int32) (w6 : Int32) (w7 : Int32) (w8 : Int32) (w9 : Int32) (w10 : Int32) (w11 : Int32) => bd1 (fX0_size N rs) (fun v14 => (if v14 ≤ x5 then bd1 (fX0_size N rs) (fun v17 => some (v17, w6, w7, w8, w9, w10, w11)) else bd1 (fX0_get N rs 30 rac x5) (fun v19 => bd1 (fX4_kindOf N  v19) (fun v21 => bd1 (fX4_whatOf N  v19) (fun v23 => bd4 (fX4_reasonIn N nc sc br so lo ends pg hol w6 w7 w8 w9 w10 w11 v21 v23) (fun v26 w27 w28 w29 => (if v26 = 0 then bd1 (fX4_kindOf N  v19) (fun v31 => bd1 (fX4_whatOf N  v19) (fun v33 => bd3 (fX3_flip N w6 w7 w8 v31 v33) (fun w36 w37 w38 => g13_12 (x5 + 1) w36 w37 w38 w27 w28 w29))) else some (x5, w6, w7, w8, w27, w28, w29))))))))) N 0 w2 w3 w4 ac ae ao)
set_option maxRecDepth 100000 in
theorem inX4_check_X4 : ∀ w ∈ wsX40, w ∈ wsX4_check := by decide +kernel
set_option maxRecDepth 100000 in
theorem lkX4_check_0 : (.fieldLink RX4 42 "Switchlog" "thought" "LSwitchlog$State;" : Cond) ∈ wsX4_check := by decide +kernel
set_option maxRecDepth 100000 in
theorem lkX4_check_1 : (.fieldLink RX4 19 "Switchlog" "now" "LSwitchlog$State;" : Cond) ∈ wsX4_check := by decide +kernel
set_option maxRecDepth 100000 in
theorem lkX4_check_2 : (.fieldLink RX4 32 "Switchlog" "written" "LSwitchlog$ActRow;" : Cond) ∈ wsX4_check := by decide +kernel
abbrev rmX4_check : Room := { frames := 5, cells := 0, slots := 0, locals := 119 }
set_option maxHeartbeats 4000000 in
set_option maxRecDepth 100000 in
theorem kX4_check (l : Launch) (D : va_G) (cI cZ cL : ClassId) (sz0 : Nat) (h_x a_don h_net h_ends h_now h_wri h_rac h_per h_hol h_tho h_aft : Nat) (nc : Int32) (sc : Int32) (br : Int32) (so : Int32) (lo : Int32) (ends : Nat → Int32) (cl : Int32) (ea : Int32) (on : Int32) (rs : Int32) (rac : Nat → Int32) (pg : Int32) (hol : Nat → Int32) (tc : Int32) (te : Int32) (to : Int32) (ac : Int32) (ae : Int32) (ao : Int32)  (N : Nat) {r : Int32} {r_0 : Int32} {r_1 : Int32} {r_2 : Int32} {r_3 : Int32} {r_4 : Int32} {r_5 : Int32} (h : fX4_check N nc sc br so lo ends cl ea on rs rac pg hol tc te to ac ae ao  = some (r, r_0, r_1, r_2, r_3, r_4, r_5)) : Met l yX4_check wsX4_check rmX4_check (PM D cI cZ cL [.ref h_x] [(h_x, .inr (4, [.ref h_net, .ref h_now, .ref a_don, .ref h_wri, .ref h_per, .ref h_tho, .ref h_aft])), (h_net, .inr (1, [.ref h_ends, .int nc, .int sc, .int br, .int so, .int lo])), (h_ends, .inl (cI, 24, .inl ends)), (h_now, .inr (3, [.int cl, .int ea, .int on])), (h_wri, .inr (0, [.ref h_rac, .int rs])), (h_rac, .inl (cI, 30, .inl rac)), (h_per, .inr (2, [.ref h_hol, .int pg])), (h_hol, .inl (cI, 10, .inl hol)), (h_tho, .inr (3, [.int tc, .int te, .int to])), (h_aft, .inr (3, [.int ac, .int ae, .int ao]))] sz0) (QM D (some (.int r)) (va_A [(h_x, .inr (4, [.ref h_net, .ref h_now, .ref a_don, .ref h_wri, .ref h_per, .ref h_tho, .ref h_aft])), (h_net, .inr (1, [.ref h_ends, .int nc, .int sc, .int br, .int so, .int lo])), (h_ends, .inl (cI, 24, .inl ends)), (h_now, .inr (3, [.int cl, .int ea, .int on])), (h_wri, .inr (0, [.ref h_rac, .int rs])), (h_rac, .inl (cI, 30, .inl rac)), (h_per, .inr (2, [.ref h_hol, .int pg])), (h_hol, .inl (cI, 10, .inl hol)), (h_tho, .inr (3, [.int tc, .int te, .int to])), (h_aft, .inr (3, [.int ac, .int ae, .int ao]))] sz0) [(h_x, .inr (4, [.ref h_net, .ref h_now, .ref a_don, .ref h_wri, .ref h_per, .ref h_tho, .ref h_aft])), (h_net, .inr (1, [.ref h_ends, .int nc, .int sc, .int br, .int so, .int lo])), (h_ends, .inl (cI, 24, .inl ends)), (h_now, .inr (3, [.int cl, .int ea, .int on])), (h_wri, .inr (0, [.ref h_rac, .int rs])), (h_rac, .inl (cI, 30, .inl rac)), (h_per, .inr (2, [.ref h_hol, .int pg])), (h_hol, .inl (cI, 10, .inl hol)), (h_tho, .inr (3, [.int r_0, .int r_1, .int r_2])), (h_aft, .inr (3, [.int r_3, .int r_4, .int r_5]))]) 0 0 (va_A [(h_x, .inr (4, [.ref h_net, .ref h_now, .ref a_don, .ref h_wri, .ref h_per, .ref h_tho, .ref h_aft])), (h_net, .inr (1, [.ref h_ends, .int nc, .int sc, .int br, .int so, .int lo])), (h_ends, .inl (cI, 24, .inl ends)), (h_now, .inr (3, [.int cl, .int ea, .int on])), (h_wri, .inr (0, [.ref h_rac, .int rs])), (h_rac, .inl (cI, 30, .inl rac)), (h_per, .inr (2, [.ref h_hol, .int pg])), (h_hol, .inl (cI, 10, .inl hol)), (h_tho, .inr (3, [.int tc, .int te, .int to])), (h_aft, .inr (3, [.int ac, .int ae, .int ao]))] sz0) := by
  refine Met.ofW (cc := cX4_check) (maxL := 3) (ret := (some .int)) (by decide) rfl ?_
  intro p e s m args below meth c s₁ B hml hv
  obtain ⟨rfl, hsz, hP, hKK, hD0⟩ := hv
  have hK := hKK.1
  have hx := B.exec
  have hb := B.bytes
  have hr := B.returns
  have hts := atoms_spec (ws := wsX4_check) B.pre
  have hown : s.vm.findClass RX4 = some m.cls := findClass_of_methodNamed B.named
  have hlocks := B.notSynchronized
  subst hsz
  have hD := hD0.self (sz := s.heap.size)
  generalize hAe : va_A [(h_x, .inr (4, [.ref h_net, .ref h_now, .ref a_don, .ref h_wri, .ref h_per, .ref h_tho, .ref h_aft])), (h_net, .inr (1, [.ref h_ends, .int nc, .int sc, .int br, .int so, .int lo])), (h_ends, .inl (cI, 24, .inl ends)), (h_now, .inr (3, [.int cl, .int ea, .int on])), (h_wri, .inr (0, [.ref h_rac, .int rs])), (h_rac, .inl (cI, 30, .inl rac)), (h_per, .inr (2, [.ref h_hol, .int pg])), (h_hol, .inl (cI, 10, .inl hol)), (h_tho, .inr (3, [.int tc, .int te, .int to])), (h_aft, .inr (3, [.int ac, .int ae, .int ao]))] s.heap.size = A at hD ⊢
  have hA : ∀ q : Nat, s.heap.size ≤ q → A q := fun q h => by rw [← hAe]; exact Or.inr h
  have hS : va_S A s.heap s.heap [] := va_S.rf
  have hl := lv_entry ([.ref h_x]) (n := 3) (Nat.le_of_ble_eq_true rfl)
  rw [lg_entry_eq]
  generalize (lg_sl ([.ref h_x]) ++ List.replicate (3 - (lg_sl ([.ref h_x])).length) Slot.unset).toArray = ls at hl ⊢
  have hl : lv_has ls 3 [(0, .ref h_x)] := hl
  obtain ⟨QQ, hQQ⟩ : ∃ Z, Z = MQ below (QM D (some (.int r)) A [(h_x, .inr (4, [.ref h_net, .ref h_now, .ref a_don, .ref h_wri, .ref h_per, .ref h_tho, .ref h_aft])), (h_net, .inr (1, [.ref h_ends, .int nc, .int sc, .int br, .int so, .int lo])), (h_ends, .inl (cI, 24, .inl ends)), (h_now, .inr (3, [.int cl, .int ea, .int on])), (h_wri, .inr (0, [.ref h_rac, .int rs])), (h_rac, .inl (cI, 30, .inl rac)), (h_per, .inr (2, [.ref h_hol, .int pg])), (h_hol, .inl (cI, 10, .inl hol)), (h_tho, .inr (3, [.int r_0, .int r_1, .int r_2])), (h_aft, .inr (3, [.int r_3, .int r_4, .int r_5]))]) ([.ref h_x] : List Value).toArray s 0 0 A := ⟨_, rfl⟩
  rw [← hQQ]
  obtain ⟨H, locs, hHe, hLe⟩ : ∃ (H : Heap) (locs : List Loc), H = s.heap ∧ locs = [] := ⟨_, _, rfl, rfl⟩
  have hP : va_P D vwCl [(h_x, .inr (4, [.ref h_net, .ref h_now, .ref a_don, .ref h_wri, .ref h_per, .ref h_tho, .ref h_aft])), (h_net, .inr (1, [.ref h_ends, .int nc, .int sc, .int br, .int so, .int lo])), (h_ends, .inl (cI, 24, .inl ends)), (h_now, .inr (3, [.int cl, .int ea, .int on])), (h_wri, .inr (0, [.ref h_rac, .int rs])), (h_rac, .inl (cI, 30, .inl rac)), (h_per, .inr (2, [.ref h_hol, .int pg])), (h_hol, .inl (cI, 10, .inl hol)), (h_tho, .inr (3, [.int tc, .int te, .int to])), (h_aft, .inr (3, [.int ac, .int ae, .int ao]))] H := by rw [hHe]; exact hP
  have hS : va_S A s.heap H locs := by rw [hHe, hLe]; exact hS
  have hW0 : ∀ QQ : State → Prop, W p l e (headSpec wsX4_check rmX4_check).room s m (([.ref h_x] : List Value).toArray) below meth c H locs 0 0 QQ (F0 m 0 ls []) → W p l e (headSpec wsX4_check rmX4_check).room s m (([.ref h_x] : List Value).toArray) below meth c s.heap [] 0 0 QQ (F0 m 0 ls []) := by rw [hHe, hLe]; exact fun _ h => h
  refine hW0 _ ?_
  clear hW0
  unfold fX4_check at h
  refine lv_aload_n hx hb dX4_check_0 rfl (lv_at hl 0 rfl) ?_
  refine va_get (D := D) (ci := 4) (v := .ref h_tho) (C := RX4) (T := TX4) (N := 7) hx hb hts inX4_check_X4 hown hK hP 0 rfl rfl 5 (by decide) (hts _ lkX4_check_0) (fun _ h9 => h9) rfl dX4_check_1 ?_
  refine lv_aload_n hx hb dX4_check_4 rfl (lv_at hl 0 rfl) ?_
  refine va_get (D := D) (ci := 4) (v := .ref h_now) (C := RX4) (T := TX4) (N := 7) hx hb hts inX4_check_X4 hown hK hP 0 rfl rfl 1 (by decide) (hts _ lkX4_check_1) (fun _ h9 => h9) rfl dX4_check_5 ?_
  obtain ⟨w2, w3, w4, hq1, h⟩ := bd3_e h
  refine zz_mV (As := [.ref h_now]) (wr := [(h_x, .inr (4, [.ref h_net, .ref h_now, .ref a_don, .ref h_wri, .ref h_per, .ref h_tho, .ref h_aft])), (h_net, .inr (1, [.ref h_ends, .int nc, .int sc, .int br, .int so, .int lo])), (h_ends, .inl (cI, 24, .inl ends)), (h_wri, .inr (0, [.ref h_rac, .int rs])), (h_rac, .inl (cI, 30, .inl rac)), (h_per, .inr (2, [.ref h_hol, .int pg])), (h_hol, .inl (cI, 10, .inl hol)), (h_aft, .inr (3, [.int ac, .int ae, .int ao]))]) (w1 := [(h_tho, .inr (3, [.int w2, .int w3, .int w4])), (h_now, .inr (3, [.int cl, .int ea, .int on]))]) (wt' := [(h_x, .inr (4, [.ref h_net, .ref h_now, .ref a_don, .ref h_wri, .ref h_per, .ref h_tho, .ref h_aft])), (h_net, .inr (1, [.ref h_ends, .int nc, .int sc, .int br, .int so, .int lo])), (h_ends, .inl (cI, 24, .inl ends)), (h_now, .inr (3, [.int cl, .int ea, .int on])), (h_wri, .inr (0, [.ref h_rac, .int rs])), (h_rac, .inl (cI, 30, .inl rac)), (h_per, .inr (2, [.ref h_hol, .int pg])), (h_hol, .inl (cI, 10, .inl hol)), (h_tho, .inr (3, [.int w2, .int w3, .int w4])), (h_aft, .inr (3, [.int ac, .int ae, .int ao]))]) (wc := [(h_tho, .inr (3, [.int tc, .int te, .int to])), (h_now, .inr (3, [.int cl, .int ea, .int on]))]) (rv := none) ⟨hx, hb, hml, hown, hts⟩ (kX3_copyFrom l D cI cZ cL H.size h_tho h_now tc te to cl ea on N hq1) (cwV 1 hts gX4_check_X3_copyFrom rfl rfl rfl (by decide +kernel) ⟨Nat.le_of_ble_eq_true rfl, Nat.le_of_ble_eq_true rfl⟩) hP hD hS hA hKK [8, 3] [0, 1, 2, 4, 5, 6, 7, 9] [0, 1, 2, 9, 3, 4, 5, 6, 8, 7] rfl rfl (by decide) (by decide) rfl (by decide) (by decide) (va_recv hK hP (ci := 3) (q0 := 8) rfl rfl) rfl hl.1 rfl (Nat.le_of_ble_eq_true rfl) dX4_check_8 ⟨Nat.le_of_ble_eq_true rfl, Nat.le_of_ble_eq_true rfl⟩ (fun H locs hP hD hS hz9 => ?_)
  show W p l e _ s m _ below meth c H locs _ _ QQ (F0 m 11 ls [])
  refine lv_iconst (v := 0) hx hb dX4_check_11 (by decide) ?_
  refine lv_istore_n (lv' := [(1, .int 0), (0, .ref h_x)]) hx hb dX4_check_12 rfl hl (by decide) rfl (fun ls hl => ?_)
  refine it7_e (fun (x5 : Int32) (w6 : Int32) (w7 : Int32) (w8 : Int32) (w9 : Int32) (w10 : Int32) (w11 : Int32) => ∀ (H : Heap) (locs : List Loc) (ls : Array Slot), va_P D vwCl [(h_x, .inr (4, [.ref h_net, .ref h_now, .ref a_don, .ref h_wri, .ref h_per, .ref h_tho, .ref h_aft])), (h_net, .inr (1, [.ref h_ends, .int nc, .int sc, .int br, .int so, .int lo])), (h_ends, .inl (cI, 24, .inl ends)), (h_now, .inr (3, [.int cl, .int ea, .int on])), (h_wri, .inr (0, [.ref h_rac, .int rs])), (h_rac, .inl (cI, 30, .inl rac)), (h_per, .inr (2, [.ref h_hol, .int pg])), (h_hol, .inl (cI, 10, .inl hol)), (h_tho, .inr (3, [.int w6, .int w7, .int w8])), (h_aft, .inr (3, [.int w9, .int w10, .int w11]))] H → va_D A [(h_x, .inr (4, [.ref h_net, .ref h_now, .ref a_don, .ref h_wri, .ref h_per, .ref h_tho, .ref h_aft])), (h_net, .inr (1, [.ref h_ends, .int nc, .int sc, .int br, .int so, .int lo])), (h_ends, .inl (cI, 24, .inl ends)), (h_now, .inr (3, [.int cl, .int ea, .int on])), (h_wri, .inr (0, [.ref h_rac, .int rs])), (h_rac, .inl (cI, 30, .inl rac)), (h_per, .inr (2, [.ref h_hol, .int pg])), (h_hol, .inl (cI, 10, .inl hol)), (h_tho, .inr (3, [.int w6, .int w7, .int w8])), (h_aft, .inr (3, [.int w9, .int w10, .int w11]))] → va_S A s.heap H locs → lv_has ls 3 [(1, .int x5), (0, .ref h_x)] → W p l e (headSpec wsX4_check rmX4_check).room s m (([.ref h_x] : List Value).toArray) below meth c H locs 0 0 QQ (F0 m 13 ls [])) (fun g13_12 hg13_13 x5 w6 w7 w8 w9 w10 w11 h H locs ls hP hD hS hl => ?_) N 0 w2 w3 w4 ac ae ao h H locs ls hP hD hS (lv_sub hl [0, 1] rfl)
  refine lv_iload_n hx hb dX4_check_13 rfl (lv_at hl 0 rfl) ?_
  refine lv_aload_n hx hb dX4_check_14 rfl (lv_at hl 1 rfl) ?_
  refine va_get (D := D) (ci := 4) (v := .ref h_wri) (C := RX4) (T := TX4) (N := 7) hx hb hts inX4_check_X4 hown hK hP 0 rfl rfl 3 (by decide) (hts _ lkX4_check_2) (fun _ h9 => h9) rfl dX4_check_15 ?_
  obtain ⟨v14, hq15, h⟩ := bd1_e h
  refine zz_cV (As := []) ⟨hx, hb, hml, hown, hts⟩ (kX0_size l D cI cZ cL h_wri h_rac rs N hq15) (cwV 0 hts gX4_check_X0_size rfl rfl rfl (by decide +kernel) ⟨Nat.le_of_ble_eq_true rfl, Nat.le_of_ble_eq_true rfl⟩) (hP.sub (ws' := [(h_wri, .inr (0, [.ref h_rac, .int rs]))]) [4] rfl) hKK (va_recv hK hP (ci := 0) (q0 := 4) rfl rfl) rfl hl.1 rfl (Nat.le_of_ble_eq_true rfl) dX4_check_18 ⟨Nat.le_of_ble_eq_true rfl, Nat.le_of_ble_eq_true rfl⟩ ?_
  refine lv_icmp_ge (tgt := 75) hx hb dX4_check_21 (by decide) (fun c16 => ?_) (fun c16 => ?_)
  · have h := it_t h c16
    refine lv_aload_n hx hb dX4_check_75 rfl (lv_at hl 1 rfl) ?_
    refine va_get (D := D) (ci := 4) (v := .ref h_wri) (C := RX4) (T := TX4) (N := 7) hx hb hts inX4_check_X4 hown hK hP 0 rfl rfl 3 (by decide) (hts _ lkX4_check_2) (fun _ h9 => h9) rfl dX4_check_76 ?_
    obtain ⟨v17, hq18, h⟩ := bd1_e h
    refine zz_cV (As := []) ⟨hx, hb, hml, hown, hts⟩ (kX0_size l D cI cZ cL h_wri h_rac rs N hq18) (cwV 0 hts gX4_check_X0_size rfl rfl rfl (by decide +kernel) ⟨Nat.le_of_ble_eq_true rfl, Nat.le_of_ble_eq_true rfl⟩) (hP.sub (ws' := [(h_wri, .inr (0, [.ref h_rac, .int rs]))]) [4] rfl) hKK (va_recv hK hP (ci := 0) (q0 := 4) rfl rfl) rfl hl.1 rfl (Nat.le_of_ble_eq_true rfl) dX4_check_79 ⟨Nat.le_of_ble_eq_true rfl, Nat.le_of_ble_eq_true rfl⟩ ?_
    cases h
    rw [hQQ]
    exact W.iret hx hb hr (fun t ht hW => ⟨rfl, by rw [ht]; exact hP, hD, hS.F ht⟩) hS.2.2 dX4_check_82
  · have h := it_f h c16
    refine lv_aload_n hx hb dX4_check_24 rfl (lv_at hl 1 rfl) ?_
    refine va_get (D := D) (ci := 4) (v := .ref h_wri) (C := RX4) (T := TX4) (N := 7) hx hb hts inX4_check_X4 hown hK hP 0 rfl rfl 3 (by decide) (hts _ lkX4_check_2) (fun _ h9 => h9) rfl dX4_check_25 ?_
    refine lv_iload_n hx hb dX4_check_28 rfl (lv_at hl 0 rfl) ?_
    obtain ⟨v19, hq20, h⟩ := bd1_e h
    refine zz_cV (As := [.int x5]) ⟨hx, hb, hml, hown, hts⟩ (kX0_get l D cI cZ cL h_wri h_rac rs 30 rac x5 N hq20) (cwV 1 hts gX4_check_X0_get rfl rfl rfl (by decide +kernel) ⟨Nat.le_of_ble_eq_true rfl, Nat.le_of_ble_eq_true rfl⟩) (hP.sub (ws' := [(h_wri, .inr (0, [.ref h_rac, .int rs])), (h_rac, .inl (cI, 30, .inl rac))]) [4, 5] rfl) hKK (va_recv hK hP (ci := 0) (q0 := 4) rfl rfl) rfl hl.1 rfl (Nat.le_of_ble_eq_true rfl) dX4_check_29 ⟨Nat.le_of_ble_eq_true rfl, Nat.le_of_ble_eq_true rfl⟩ ?_
    refine lv_istore_n (lv' := [(2, .int v19), (1, .int x5), (0, .ref h_x)]) hx hb dX4_check_32 rfl hl (by decide) rfl (fun ls hl => ?_)
    refine lv_aload_n hx hb dX4_check_33 rfl (lv_at hl 2 rfl) ?_
    refine lv_aload_n hx hb dX4_check_34 rfl (lv_at hl 2 rfl) ?_
    refine va_get (D := D) (ci := 4) (v := .ref h_tho) (C := RX4) (T := TX4) (N := 7) hx hb hts inX4_check_X4 hown hK hP 0 rfl rfl 5 (by decide) (hts _ lkX4_check_0) (fun _ h9 => h9) rfl dX4_check_35 ?_
    refine lv_iload_n hx hb dX4_check_38 rfl (lv_at hl 0 rfl) ?_
    obtain ⟨v21, hq22, h⟩ := bd1_e h
    refine zz_cS (As := [.int v19]) ⟨hx, hb, hml, hown, hts⟩ (kX4_kindOf l D cI cZ cL v19 N hq22) (va_cwS 1 hts gX4_check_X4_kindOf rfl rfl rfl (by decide +kernel) ⟨Nat.le_of_ble_eq_true rfl, Nat.le_of_ble_eq_true rfl⟩) (hP.sub (ws' := []) [] rfl) hKK rfl hl.1 rfl (Nat.le_of_ble_eq_true rfl) dX4_check_39 ⟨Nat.le_of_ble_eq_true rfl, Nat.le_of_ble_eq_true rfl⟩ ?_
    refine lv_iload_n hx hb dX4_check_42 rfl (lv_at hl 0 rfl) ?_
    obtain ⟨v23, hq24, h⟩ := bd1_e h
    refine zz_cS (As := [.int v19]) ⟨hx, hb, hml, hown, hts⟩ (kX4_whatOf l D cI cZ cL v19 N hq24) (va_cwS 1 hts gX4_check_X4_whatOf rfl rfl rfl (by decide +kernel) ⟨Nat.le_of_ble_eq_true rfl, Nat.le_of_ble_eq_true rfl⟩) (hP.sub (ws' := []) [] rfl) hKK rfl hl.1 rfl (Nat.le_of_ble_eq_true rfl) dX4_check_43 ⟨Nat.le_of_ble_eq_true rfl, Nat.le_of_ble_eq_true rfl⟩ ?_
    obtain ⟨v26, w27, w28, w29, hq25, h⟩ := bd4_e h
    refine zz_mV (As := [.ref h_tho, .int v21, .int v23]) (wr := [(h_now, .inr (3, [.int cl, .int ea, .int on])), (h_wri, .inr (0, [.ref h_rac, .int rs])), (h_rac, .inl (cI, 30, .inl rac))]) (w1 := [(h_x, .inr (4, [.ref h_net, .ref h_now, .ref a_don, .ref h_wri, .ref h_per, .ref h_tho, .ref h_aft])), (h_net, .inr (1, [.ref h_ends, .int nc, .int sc, .int br, .int so, .int lo])), (h_ends, .inl (cI, 24, .inl ends)), (h_per, .inr (2, [.ref h_hol, .int pg])), (h_hol, .inl (cI, 10, .inl hol)), (h_tho, .inr (3, [.int w6, .int w7, .int w8])), (h_aft, .inr (3, [.int w27, .int w28, .int w29]))]) (wt' := [(h_x, .inr (4, [.ref h_net, .ref h_now, .ref a_don, .ref h_wri, .ref h_per, .ref h_tho, .ref h_aft])), (h_net, .inr (1, [.ref h_ends, .int nc, .int sc, .int br, .int so, .int lo])), (h_ends, .inl (cI, 24, .inl ends)), (h_now, .inr (3, [.int cl, .int ea, .int on])), (h_wri, .inr (0, [.ref h_rac, .int rs])), (h_rac, .inl (cI, 30, .inl rac)), (h_per, .inr (2, [.ref h_hol, .int pg])), (h_hol, .inl (cI, 10, .inl hol)), (h_tho, .inr (3, [.int w6, .int w7, .int w8])), (h_aft, .inr (3, [.int w27, .int w28, .int w29]))]) (wc := [(h_x, .inr (4, [.ref h_net, .ref h_now, .ref a_don, .ref h_wri, .ref h_per, .ref h_tho, .ref h_aft])), (h_net, .inr (1, [.ref h_ends, .int nc, .int sc, .int br, .int so, .int lo])), (h_ends, .inl (cI, 24, .inl ends)), (h_per, .inr (2, [.ref h_hol, .int pg])), (h_hol, .inl (cI, 10, .inl hol)), (h_tho, .inr (3, [.int w6, .int w7, .int w8])), (h_aft, .inr (3, [.int w9, .int w10, .int w11]))]) (rv := (some (.int v26))) ⟨hx, hb, hml, hown, hts⟩ (kX4_reasonIn l D cI cZ cL H.size h_x h_now a_don h_wri h_tho h_net h_ends h_per h_hol h_tho h_aft nc sc br so lo ends pg hol w6 w7 w8 w9 w10 w11 v21 v23 N hq25) (cwV 3 hts gX4_check_X4_reasonIn rfl rfl rfl (by decide +kernel) ⟨Nat.le_of_ble_eq_true rfl, Nat.le_of_ble_eq_true rfl⟩) hP hD hS hA hKK [0, 1, 2, 6, 7, 8, 9] [3, 4, 5] [3, 4, 5, 0, 1, 2, 6, 7, 8, 9] rfl rfl (by decide) (by decide) rfl (by decide) (by decide) (va_recv hK hP (ci := 4) (q0 := 0) rfl rfl) rfl hl.1 rfl (Nat.le_of_ble_eq_true rfl) dX4_check_46 ⟨Nat.le_of_ble_eq_true rfl, Nat.le_of_ble_eq_true rfl⟩ (fun H locs hP hD hS hz9 => ?_)
    show W p l e _ s m _ below meth c H locs _ _ QQ (F0 m 49 ls (.int v26 :: []))
    refine lv_if_eq (tgt := 54) hx hb dX4_check_49 (by decide) (fun c30 => ?_) (fun c30 => ?_)
    · have h := it_t h c30
      refine lv_aload_n hx hb dX4_check_54 rfl (lv_at hl 2 rfl) ?_
      refine va_get (D := D) (ci := 4) (v := .ref h_tho) (C := RX4) (T := TX4) (N := 7) hx hb hts inX4_check_X4 hown hK hP 0 rfl rfl 5 (by decide) (hts _ lkX4_check_0) (fun _ h9 => h9) rfl dX4_check_55 ?_
      refine lv_iload_n hx hb dX4_check_58 rfl (lv_at hl 0 rfl) ?_
      obtain ⟨v31, hq32, h⟩ := bd1_e h
      refine zz_cS (As := [.int v19]) ⟨hx, hb, hml, hown, hts⟩ (kX4_kindOf l D cI cZ cL v19 N hq32) (va_cwS 1 hts gX4_check_X4_kindOf rfl rfl rfl (by decide +kernel) ⟨Nat.le_of_ble_eq_true rfl, Nat.le_of_ble_eq_true rfl⟩) (hP.sub (ws' := []) [] rfl) hKK rfl hl.1 rfl (Nat.le_of_ble_eq_true rfl) dX4_check_59 ⟨Nat.le_of_ble_eq_true rfl, Nat.le_of_ble_eq_true rfl⟩ ?_
      refine lv_iload_n hx hb dX4_check_62 rfl (lv_at hl 0 rfl) ?_
      obtain ⟨v33, hq34, h⟩ := bd1_e h
      refine zz_cS (As := [.int v19]) ⟨hx, hb, hml, hown, hts⟩ (kX4_whatOf l D cI cZ cL v19 N hq34) (va_cwS 1 hts gX4_check_X4_whatOf rfl rfl rfl (by decide +kernel) ⟨Nat.le_of_ble_eq_true rfl, Nat.le_of_ble_eq_true rfl⟩) (hP.sub (ws' := []) [] rfl) hKK rfl hl.1 rfl (Nat.le_of_ble_eq_true rfl) dX4_check_63 ⟨Nat.le_of_ble_eq_true rfl, Nat.le_of_ble_eq_true rfl⟩ ?_
      obtain ⟨w36, w37, w38, hq35, h⟩ := bd3_e h
      refine zz_mV (As := [.int v31, .int v33]) (wr := [(h_x, .inr (4, [.ref h_net, .ref h_now, .ref a_don, .ref h_wri, .ref h_per, .ref h_tho, .ref h_aft])), (h_net, .inr (1, [.ref h_ends, .int nc, .int sc, .int br, .int so, .int lo])), (h_ends, .inl (cI, 24, .inl ends)), (h_now, .inr (3, [.int cl, .int ea, .int on])), (h_wri, .inr (0, [.ref h_rac, .int rs])), (h_rac, .inl (cI, 30, .inl rac)), (h_per, .inr (2, [.ref h_hol, .int pg])), (h_hol, .inl (cI, 10, .inl hol)), (h_aft, .inr (3, [.int w27, .int w28, .int w29]))]) (w1 := [(h_tho, .inr (3, [.int w36, .int w37, .int w38]))]) (wt' := [(h_x, .inr (4, [.ref h_net, .ref h_now, .ref a_don, .ref h_wri, .ref h_per, .ref h_tho, .ref h_aft])), (h_net, .inr (1, [.ref h_ends, .int nc, .int sc, .int br, .int so, .int lo])), (h_ends, .inl (cI, 24, .inl ends)), (h_now, .inr (3, [.int cl, .int ea, .int on])), (h_wri, .inr (0, [.ref h_rac, .int rs])), (h_rac, .inl (cI, 30, .inl rac)), (h_per, .inr (2, [.ref h_hol, .int pg])), (h_hol, .inl (cI, 10, .inl hol)), (h_tho, .inr (3, [.int w36, .int w37, .int w38])), (h_aft, .inr (3, [.int w27, .int w28, .int w29]))]) (wc := [(h_tho, .inr (3, [.int w6, .int w7, .int w8]))]) (rv := none) ⟨hx, hb, hml, hown, hts⟩ (kX3_flip l D cI cZ cL H.size h_tho w6 w7 w8 v31 v33 N hq35) (cwV 2 hts gX4_check_X3_flip rfl rfl rfl (by decide +kernel) ⟨Nat.le_of_ble_eq_true rfl, Nat.le_of_ble_eq_true rfl⟩) hP hD hS hA hKK [8] [0, 1, 2, 3, 4, 5, 6, 7, 9] [0, 1, 2, 3, 4, 5, 6, 7, 9, 8] rfl rfl (by decide) (by decide) rfl (by decide) (by decide) (va_recv hK hP (ci := 3) (q0 := 8) rfl rfl) rfl hl.1 rfl (Nat.le_of_ble_eq_true rfl) dX4_check_66 ⟨Nat.le_of_ble_eq_true rfl, Nat.le_of_ble_eq_true rfl⟩ (fun H locs hP hD hS hz9 => ?_)
      show W p l e _ s m _ below meth c H locs _ _ QQ (F0 m 69 ls [])
      refine lv_iinc (v := x5 + 1) (lv' := [(1, .int (x5 + 1)), (2, .int v19), (0, .ref h_x)]) hx hb dX4_check_69 hl (k := 1) rfl rfl (by decide) rfl (fun ls hl => ?_)
      refine lv_goto (tgt := 13) hx hb dX4_check_72 (by decide) ?_
      exact hg13_13 (x5 + 1) w36 w37 w38 w27 w28 w29 h H locs ls hP hD hS (lv_sub hl [0, 2] rfl)
    · have h := it_f h c30
      refine lv_iload_n hx hb dX4_check_52 rfl (lv_at hl 1 rfl) ?_
      cases h
      rw [hQQ]
      exact W.iret hx hb hr (fun t ht hW => ⟨rfl, by rw [ht]; exact hP, hD, hS.F ht⟩) hS.2.2 dX4_check_53

def fX4_writeBack (N : Nat) (ds : Int32) (dac : Nat → Int32) (rs : Int32) (rac : Nat → Int32) : Option ((Int32) × (Int32) × (Nat → Int32)) :=
  bd1 (fX0_size N ds) (fun v1 => bd1 (fX0_size N rs) (fun v3 => bd2 (fX0_dropFirst N rs 30 rac v3) (fun w6 w7 => it3 (fun g29_11 (x8 : Int32) (w9 : Int32) (w10 : Nat → Int32) => (if (if 30 < v1 then 30 else v1) ≤ x8 then some (if 30 < v1 then 30 else v1, w9, w10) else bd1 (fX0_latest N ds 200 dac x8) (fun v14 => bd1 (fX4_oppositeOf N  v14) (fun v16 => bd2 (fX0_append N w9 30 w10 v16) (fun w19 w20 => g29_11 (x8 + 1) w20 w19))))) N 0 w7 w6)))
set_option maxRecDepth 100000 in
theorem inX4_writeBack_X4 : ∀ w ∈ wsX40, w ∈ wsX4_writeBack := by decide +kernel
set_option maxRecDepth 100000 in
theorem lkX4_writeBack_0 : (.fieldLink RX4 28 "Switchlog" "done" "LSwitchlog$ActRow;" : Cond) ∈ wsX4_writeBack := by decide +kernel
set_option maxRecDepth 100000 in
theorem lkX4_writeBack_1 : (.methodLink RX4 146 Lib.Math.min.name : Cond) ∈ wsX4_writeBack := by decide +kernel
set_option maxRecDepth 100000 in
theorem lkX4_writeBack_2 : (.static Lib.Math.min.name : Cond) ∈ wsX4_writeBack := by decide +kernel
set_option maxRecDepth 100000 in
theorem lkX4_writeBack_3 : (.initialized "java/lang/Math" : Cond) ∈ wsX4_writeBack := by decide +kernel
set_option maxRecDepth 100000 in
theorem lkX4_writeBack_4 : (.code Lib.Math.min.name Lib.Math.min.code 2 (some .int) : Cond) ∈ wsX4_writeBack := by decide +kernel
set_option maxRecDepth 100000 in
theorem lkX4_writeBack_5 : (.fieldLink RX4 32 "Switchlog" "written" "LSwitchlog$ActRow;" : Cond) ∈ wsX4_writeBack := by decide +kernel
abbrev rmX4_writeBack : Room := { frames := 2, cells := 0, slots := 0, locals := 41 }
set_option maxHeartbeats 4000000 in
set_option maxRecDepth 100000 in
theorem kX4_writeBack (l : Launch) (D : va_G) (cI cZ cL : ClassId) (sz0 : Nat) (h_x a_net a_now a_per a_tho a_aft h_don h_dac h_wri h_rac : Nat) (ds : Int32) (dac : Nat → Int32) (rs : Int32) (rac : Nat → Int32)  (N : Nat) {r : Int32} {r_0 : Int32} {r_1 : Nat → Int32} (h : fX4_writeBack N ds dac rs rac  = some (r, r_0, r_1)) : Met l yX4_writeBack wsX4_writeBack rmX4_writeBack (PM D cI cZ cL [.ref h_x] [(h_x, .inr (4, [.ref a_net, .ref a_now, .ref h_don, .ref h_wri, .ref a_per, .ref a_tho, .ref a_aft])), (h_don, .inr (0, [.ref h_dac, .int ds])), (h_dac, .inl (cI, 200, .inl dac)), (h_wri, .inr (0, [.ref h_rac, .int rs])), (h_rac, .inl (cI, 30, .inl rac))] sz0) (QM D (some (.int r)) (va_A [(h_x, .inr (4, [.ref a_net, .ref a_now, .ref h_don, .ref h_wri, .ref a_per, .ref a_tho, .ref a_aft])), (h_don, .inr (0, [.ref h_dac, .int ds])), (h_dac, .inl (cI, 200, .inl dac)), (h_wri, .inr (0, [.ref h_rac, .int rs])), (h_rac, .inl (cI, 30, .inl rac))] sz0) [(h_x, .inr (4, [.ref a_net, .ref a_now, .ref h_don, .ref h_wri, .ref a_per, .ref a_tho, .ref a_aft])), (h_don, .inr (0, [.ref h_dac, .int ds])), (h_dac, .inl (cI, 200, .inl dac)), (h_wri, .inr (0, [.ref h_rac, .int r_0])), (h_rac, .inl (cI, 30, .inl r_1))]) 0 0 (va_A [(h_x, .inr (4, [.ref a_net, .ref a_now, .ref h_don, .ref h_wri, .ref a_per, .ref a_tho, .ref a_aft])), (h_don, .inr (0, [.ref h_dac, .int ds])), (h_dac, .inl (cI, 200, .inl dac)), (h_wri, .inr (0, [.ref h_rac, .int rs])), (h_rac, .inl (cI, 30, .inl rac))] sz0) := by
  refine Met.ofW (cc := cX4_writeBack) (maxL := 3) (ret := (some .int)) (by decide) rfl ?_
  intro p e s m args below meth c s₁ B hml hv
  obtain ⟨rfl, hsz, hP, hKK, hD0⟩ := hv
  have hK := hKK.1
  have hx := B.exec
  have hb := B.bytes
  have hr := B.returns
  have hts := atoms_spec (ws := wsX4_writeBack) B.pre
  have hown : s.vm.findClass RX4 = some m.cls := findClass_of_methodNamed B.named
  have hlocks := B.notSynchronized
  subst hsz
  have hD := hD0.self (sz := s.heap.size)
  generalize hAe : va_A [(h_x, .inr (4, [.ref a_net, .ref a_now, .ref h_don, .ref h_wri, .ref a_per, .ref a_tho, .ref a_aft])), (h_don, .inr (0, [.ref h_dac, .int ds])), (h_dac, .inl (cI, 200, .inl dac)), (h_wri, .inr (0, [.ref h_rac, .int rs])), (h_rac, .inl (cI, 30, .inl rac))] s.heap.size = A at hD ⊢
  have hA : ∀ q : Nat, s.heap.size ≤ q → A q := fun q h => by rw [← hAe]; exact Or.inr h
  have hS : va_S A s.heap s.heap [] := va_S.rf
  have hl := lv_entry ([.ref h_x]) (n := 3) (Nat.le_of_ble_eq_true rfl)
  rw [lg_entry_eq]
  generalize (lg_sl ([.ref h_x]) ++ List.replicate (3 - (lg_sl ([.ref h_x])).length) Slot.unset).toArray = ls at hl ⊢
  have hl : lv_has ls 3 [(0, .ref h_x)] := hl
  obtain ⟨QQ, hQQ⟩ : ∃ Z, Z = MQ below (QM D (some (.int r)) A [(h_x, .inr (4, [.ref a_net, .ref a_now, .ref h_don, .ref h_wri, .ref a_per, .ref a_tho, .ref a_aft])), (h_don, .inr (0, [.ref h_dac, .int ds])), (h_dac, .inl (cI, 200, .inl dac)), (h_wri, .inr (0, [.ref h_rac, .int r_0])), (h_rac, .inl (cI, 30, .inl r_1))]) ([.ref h_x] : List Value).toArray s 0 0 A := ⟨_, rfl⟩
  rw [← hQQ]
  obtain ⟨H, locs, hHe, hLe⟩ : ∃ (H : Heap) (locs : List Loc), H = s.heap ∧ locs = [] := ⟨_, _, rfl, rfl⟩
  have hP : va_P D vwCl [(h_x, .inr (4, [.ref a_net, .ref a_now, .ref h_don, .ref h_wri, .ref a_per, .ref a_tho, .ref a_aft])), (h_don, .inr (0, [.ref h_dac, .int ds])), (h_dac, .inl (cI, 200, .inl dac)), (h_wri, .inr (0, [.ref h_rac, .int rs])), (h_rac, .inl (cI, 30, .inl rac))] H := by rw [hHe]; exact hP
  have hS : va_S A s.heap H locs := by rw [hHe, hLe]; exact hS
  have hW0 : ∀ QQ : State → Prop, W p l e (headSpec wsX4_writeBack rmX4_writeBack).room s m (([.ref h_x] : List Value).toArray) below meth c H locs 0 0 QQ (F0 m 0 ls []) → W p l e (headSpec wsX4_writeBack rmX4_writeBack).room s m (([.ref h_x] : List Value).toArray) below meth c s.heap [] 0 0 QQ (F0 m 0 ls []) := by rw [hHe, hLe]; exact fun _ h => h
  refine hW0 _ ?_
  clear hW0
  unfold fX4_writeBack at h
  refine lv_aload_n hx hb dX4_writeBack_0 rfl (lv_at hl 0 rfl) ?_
  refine va_get (D := D) (ci := 4) (v := .ref h_don) (C := RX4) (T := TX4) (N := 7) hx hb hts inX4_writeBack_X4 hown hK hP 0 rfl rfl 2 (by decide) (hts _ lkX4_writeBack_0) (fun _ h9 => h9) rfl dX4_writeBack_1 ?_
  obtain ⟨v1, hq2, h⟩ := bd1_e h
  refine zz_cV (As := []) ⟨hx, hb, hml, hown, hts⟩ (kX0_size l D cI cZ cL h_don h_dac ds N hq2) (cwV 0 hts gX4_writeBack_X0_size rfl rfl rfl (by decide +kernel) ⟨Nat.le_of_ble_eq_true rfl, Nat.le_of_ble_eq_true rfl⟩) (hP.sub (ws' := [(h_don, .inr (0, [.ref h_dac, .int ds]))]) [1] rfl) hKK (va_recv hK hP (ci := 0) (q0 := 1) rfl rfl) rfl hl.1 rfl (Nat.le_of_ble_eq_true rfl) dX4_writeBack_4 ⟨Nat.le_of_ble_eq_true rfl, Nat.le_of_ble_eq_true rfl⟩ ?_
  refine lv_bipush (v := 30) hx hb dX4_writeBack_7 (by decide) ?_
  refine va_mmin hx hb (by rw [hml]; exact hl.1.symm) hown (hts _ lkX4_writeBack_1) (hts _ lkX4_writeBack_2) (hts _ lkX4_writeBack_3) (hts _ lkX4_writeBack_4) (Nat.le_of_ble_eq_true rfl) (Nat.le_of_ble_eq_true rfl) (Nat.le_of_ble_eq_true rfl) (Nat.le_of_ble_eq_true rfl) dX4_writeBack_9 ?_
  refine lv_istore_n (lv' := [(1, .int (if 30 < v1 then 30 else v1)), (0, .ref h_x)]) hx hb dX4_writeBack_12 rfl hl (by decide) rfl (fun ls hl => ?_)
  refine lv_aload_n hx hb dX4_writeBack_13 rfl (lv_at hl 1 rfl) ?_
  refine va_get (D := D) (ci := 4) (v := .ref h_wri) (C := RX4) (T := TX4) (N := 7) hx hb hts inX4_writeBack_X4 hown hK hP 0 rfl rfl 3 (by decide) (hts _ lkX4_writeBack_5) (fun _ h9 => h9) rfl dX4_writeBack_14 ?_
  refine lv_aload_n hx hb dX4_writeBack_17 rfl (lv_at hl 1 rfl) ?_
  refine va_get (D := D) (ci := 4) (v := .ref h_wri) (C := RX4) (T := TX4) (N := 7) hx hb hts inX4_writeBack_X4 hown hK hP 0 rfl rfl 3 (by decide) (hts _ lkX4_writeBack_5) (fun _ h9 => h9) rfl dX4_writeBack_18 ?_
  obtain ⟨v3, hq4, h⟩ := bd1_e h
  refine zz_cV (As := []) ⟨hx, hb, hml, hown, hts⟩ (kX0_size l D cI cZ cL h_wri h_rac rs N hq4) (cwV 0 hts gX4_writeBack_X0_size rfl rfl rfl (by decide +kernel) ⟨Nat.le_of_ble_eq_true rfl, Nat.le_of_ble_eq_true rfl⟩) (hP.sub (ws' := [(h_wri, .inr (0, [.ref h_rac, .int rs]))]) [3] rfl) hKK (va_recv hK hP (ci := 0) (q0 := 3) rfl rfl) rfl hl.1 rfl (Nat.le_of_ble_eq_true rfl) dX4_writeBack_21 ⟨Nat.le_of_ble_eq_true rfl, Nat.le_of_ble_eq_true rfl⟩ ?_
  obtain ⟨w6, w7, hq5, h⟩ := bd2_e h
  refine zz_mV (As := [.int v3]) (wr := [(h_x, .inr (4, [.ref a_net, .ref a_now, .ref h_don, .ref h_wri, .ref a_per, .ref a_tho, .ref a_aft])), (h_don, .inr (0, [.ref h_dac, .int ds])), (h_dac, .inl (cI, 200, .inl dac))]) (w1 := [(h_wri, .inr (0, [.ref h_rac, .int w7])), (h_rac, .inl (cI, 30, .inl w6))]) (wt' := [(h_x, .inr (4, [.ref a_net, .ref a_now, .ref h_don, .ref h_wri, .ref a_per, .ref a_tho, .ref a_aft])), (h_don, .inr (0, [.ref h_dac, .int ds])), (h_dac, .inl (cI, 200, .inl dac)), (h_wri, .inr (0, [.ref h_rac, .int w7])), (h_rac, .inl (cI, 30, .inl w6))]) (wc := [(h_wri, .inr (0, [.ref h_rac, .int rs])), (h_rac, .inl (cI, 30, .inl rac))]) (rv := none) ⟨hx, hb, hml, hown, hts⟩ (kX0_dropFirst l D cI cZ cL H.size h_wri h_rac rs 30 rac v3 N hq5) (cwV 1 hts gX4_writeBack_X0_dropFirst rfl rfl rfl (by decide +kernel) ⟨Nat.le_of_ble_eq_true rfl, Nat.le_of_ble_eq_true rfl⟩) hP hD hS hA hKK [3, 4] [0, 1, 2] [0, 1, 2, 3, 4] rfl rfl (by decide) (by decide) rfl (by decide) (by decide) (va_recv hK hP (ci := 0) (q0 := 3) rfl rfl) rfl hl.1 rfl (Nat.le_of_ble_eq_true rfl) dX4_writeBack_24 ⟨Nat.le_of_ble_eq_true rfl, Nat.le_of_ble_eq_true rfl⟩ (fun H locs hP hD hS hz9 => ?_)
  show W p l e _ s m _ below meth c H locs _ _ QQ (F0 m 27 ls [])
  refine lv_iconst (v := 0) hx hb dX4_writeBack_27 (by decide) ?_
  refine lv_istore_n (lv' := [(2, .int 0), (1, .int (if 30 < v1 then 30 else v1)), (0, .ref h_x)]) hx hb dX4_writeBack_28 rfl hl (by decide) rfl (fun ls hl => ?_)
  refine it3_e (fun (x8 : Int32) (w9 : Int32) (w10 : Nat → Int32) => ∀ (H : Heap) (locs : List Loc) (ls : Array Slot), va_P D vwCl [(h_x, .inr (4, [.ref a_net, .ref a_now, .ref h_don, .ref h_wri, .ref a_per, .ref a_tho, .ref a_aft])), (h_don, .inr (0, [.ref h_dac, .int ds])), (h_dac, .inl (cI, 200, .inl dac)), (h_wri, .inr (0, [.ref h_rac, .int w9])), (h_rac, .inl (cI, 30, .inl w10))] H → va_D A [(h_x, .inr (4, [.ref a_net, .ref a_now, .ref h_don, .ref h_wri, .ref a_per, .ref a_tho, .ref a_aft])), (h_don, .inr (0, [.ref h_dac, .int ds])), (h_dac, .inl (cI, 200, .inl dac)), (h_wri, .inr (0, [.ref h_rac, .int w9])), (h_rac, .inl (cI, 30, .inl w10))] → va_S A s.heap H locs → lv_has ls 3 [(2, .int x8), (1, .int (if 30 < v1 then 30 else v1)), (0, .ref h_x)] → W p l e (headSpec wsX4_writeBack rmX4_writeBack).room s m (([.ref h_x] : List Value).toArray) below meth c H locs 0 0 QQ (F0 m 29 ls [])) (fun g29_11 hg29_12 x8 w9 w10 h H locs ls hP hD hS hl => ?_) N 0 w7 w6 h H locs ls hP hD hS (lv_sub hl [0, 1, 2] rfl)
  refine lv_iload_n hx hb dX4_writeBack_29 rfl (lv_at hl 0 rfl) ?_
  refine lv_iload_n hx hb dX4_writeBack_30 rfl (lv_at hl 1 rfl) ?_
  refine lv_icmp_ge (tgt := 58) hx hb dX4_writeBack_31 (by decide) (fun c13 => ?_) (fun c13 => ?_)
  · have h := it_t h c13
    refine lv_iload_n hx hb dX4_writeBack_58 rfl (lv_at hl 1 rfl) ?_
    cases h
    rw [hQQ]
    exact W.iret hx hb hr (fun t ht hW => ⟨rfl, by rw [ht]; exact hP, hD, hS.F ht⟩) hS.2.2 dX4_writeBack_59
  · have h := it_f h c13
    refine lv_aload_n hx hb dX4_writeBack_34 rfl (lv_at hl 2 rfl) ?_
    refine va_get (D := D) (ci := 4) (v := .ref h_wri) (C := RX4) (T := TX4) (N := 7) hx hb hts inX4_writeBack_X4 hown hK hP 0 rfl rfl 3 (by decide) (hts _ lkX4_writeBack_5) (fun _ h9 => h9) rfl dX4_writeBack_35 ?_
    refine lv_aload_n hx hb dX4_writeBack_38 rfl (lv_at hl 2 rfl) ?_
    refine va_get (D := D) (ci := 4) (v := .ref h_don) (C := RX4) (T := TX4) (N := 7) hx hb hts inX4_writeBack_X4 hown hK hP 0 rfl rfl 2 (by decide) (hts _ lkX4_writeBack_0) (fun _ h9 => h9) rfl dX4_writeBack_39 ?_
    refine lv_iload_n hx hb dX4_writeBack_42 rfl (lv_at hl 0 rfl) ?_
    obtain ⟨v14, hq15, h⟩ := bd1_e h
    refine zz_cV (As := [.int x8]) ⟨hx, hb, hml, hown, hts⟩ (kX0_latest l D cI cZ cL h_don h_dac ds 200 dac x8 N hq15) (cwV 1 hts gX4_writeBack_X0_latest rfl rfl rfl (by decide +kernel) ⟨Nat.le_of_ble_eq_true rfl, Nat.le_of_ble_eq_true rfl⟩) (hP.sub (ws' := [(h_don, .inr (0, [.ref h_dac, .int ds])), (h_dac, .inl (cI, 200, .inl dac))]) [1, 2] rfl) hKK (va_recv hK hP (ci := 0) (q0 := 1) rfl rfl) rfl hl.1 rfl (Nat.le_of_ble_eq_true rfl) dX4_writeBack_43 ⟨Nat.le_of_ble_eq_true rfl, Nat.le_of_ble_eq_true rfl⟩ ?_
    obtain ⟨v16, hq17, h⟩ := bd1_e h
    refine zz_cS (As := [.int v14]) ⟨hx, hb, hml, hown, hts⟩ (kX4_oppositeOf l D cI cZ cL v14 N hq17) (va_cwS 1 hts gX4_writeBack_X4_oppositeOf rfl rfl rfl (by decide +kernel) ⟨Nat.le_of_ble_eq_true rfl, Nat.le_of_ble_eq_true rfl⟩) (hP.sub (ws' := []) [] rfl) hKK rfl hl.1 rfl (Nat.le_of_ble_eq_true rfl) dX4_writeBack_46 ⟨Nat.le_of_ble_eq_true rfl, Nat.le_of_ble_eq_true rfl⟩ ?_
    obtain ⟨w19, w20, hq18, h⟩ := bd2_e h
    refine zz_mV (As := [.int v16]) (wr := [(h_x, .inr (4, [.ref a_net, .ref a_now, .ref h_don, .ref h_wri, .ref a_per, .ref a_tho, .ref a_aft])), (h_don, .inr (0, [.ref h_dac, .int ds])), (h_dac, .inl (cI, 200, .inl dac))]) (w1 := [(h_wri, .inr (0, [.ref h_rac, .int w20])), (h_rac, .inl (cI, 30, .inl w19))]) (wt' := [(h_x, .inr (4, [.ref a_net, .ref a_now, .ref h_don, .ref h_wri, .ref a_per, .ref a_tho, .ref a_aft])), (h_don, .inr (0, [.ref h_dac, .int ds])), (h_dac, .inl (cI, 200, .inl dac)), (h_wri, .inr (0, [.ref h_rac, .int w20])), (h_rac, .inl (cI, 30, .inl w19))]) (wc := [(h_wri, .inr (0, [.ref h_rac, .int w9])), (h_rac, .inl (cI, 30, .inl w10))]) (rv := none) ⟨hx, hb, hml, hown, hts⟩ (kX0_append l D cI cZ cL H.size h_wri h_rac w9 30 w10 v16 N hq18) (cwV 1 hts gX4_writeBack_X0_append rfl rfl rfl (by decide +kernel) ⟨Nat.le_of_ble_eq_true rfl, Nat.le_of_ble_eq_true rfl⟩) hP hD hS hA hKK [3, 4] [0, 1, 2] [0, 1, 2, 3, 4] rfl rfl (by decide) (by decide) rfl (by decide) (by decide) (va_recv hK hP (ci := 0) (q0 := 3) rfl rfl) rfl hl.1 rfl (Nat.le_of_ble_eq_true rfl) dX4_writeBack_49 ⟨Nat.le_of_ble_eq_true rfl, Nat.le_of_ble_eq_true rfl⟩ (fun H locs hP hD hS hz9 => ?_)
    show W p l e _ s m _ below meth c H locs _ _ QQ (F0 m 52 ls [])
    refine lv_iinc (v := x8 + 1) (lv' := [(2, .int (x8 + 1)), (1, .int (if 30 < v1 then 30 else v1)), (0, .ref h_x)]) hx hb dX4_writeBack_52 hl (k := 0) rfl rfl (by decide) rfl (fun ls hl => ?_)
    refine lv_goto (tgt := 29) hx hb dX4_writeBack_55 (by decide) ?_
    exact hg29_12 (x8 + 1) w20 w19 h H locs ls hP hD hS (lv_sub hl [0, 1, 2] rfl)
