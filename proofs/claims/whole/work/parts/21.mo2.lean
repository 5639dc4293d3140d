def fX5_acts (N : Nat) (th : Int32) (nd : Int32) (sw : Int32) (so : Int32) (lo : Int32) (cl : Int32) (ea : Int32) (on : Int32) (lg : Int32) (wr : Int32) (pe : Int32) (one : Nat → Int32) (oth : Nat → Int32) (isb : Nat → Int32) (log : Nat → Int32) (mho : Nat → Int32) (mih : Nat → Int32) (p0 : Int32) (p1 : Int32) : Option ((Int32) × (Int32) × (Int32) × (Int32) × (Int32) × (Nat → Int32)) :=
  bd4 (fX5_why N th nd sw so lo cl ea on lg wr pe one oth isb mho mih p0 p1) (fun v2 w3 w4 w5 => (if v2 = 0 then bd3 (fX5_does N th nd sw so lo w3 w4 w5 lg wr pe p0 p1) (fun w8 w9 w10 => gin lg 200 (some (v2, w8, w9, w10, lg + 1, upd log lg.toNatClampNeg (((100 : Int32) * p0) + p1)))) else some (v2, w3, w4, w5, lg, log)))
set_option maxRecDepth 100000 in
theorem inX5_acts_X5 : ∀ w ∈ wsX50, w ∈ wsX5_acts := by decide +kernel
set_option maxRecDepth 100000 in
theorem lkX5_acts_0 : (.fieldLink RX5 20 "SwitchlogModel" "log" "[I" : Cond) ∈ wsX5_acts := by decide +kernel
set_option maxRecDepth 100000 in
theorem lkX5_acts_1 : (.fieldLink RX5 124 "SwitchlogModel" "logged" "I" : Cond) ∈ wsX5_acts := by decide +kernel
abbrev rmX5_acts : Room := { frames := 7, cells := 0, slots := 0, locals := 161 }
set_option maxHeartbeats 4000000 in
set_option maxRecDepth 100000 in
theorem kX5_acts (l : Launch) (D : va_G) (cI cZ cL : ClassId) (sz0 : Nat) (h_m a_seq a_far h_one h_oth h_isb h_log h_mho h_mih : Nat) (th : Int32) (nd : Int32) (sw : Int32) (so : Int32) (lo : Int32) (cl : Int32) (ea : Int32) (on : Int32) (lg : Int32) (wr : Int32) (pe : Int32) (one : Nat → Int32) (oth : Nat → Int32) (isb : Nat → Int32) (log : Nat → Int32) (mho : Nat → Int32) (mih : Nat → Int32) (p0 : Int32) (p1 : Int32) (N : Nat) {r : Int32} {r_0 : Int32} {r_1 : Int32} {r_2 : Int32} {r_3 : Int32} {r_4 : Nat → Int32} (h : fX5_acts N th nd sw so lo cl ea on lg wr pe one oth isb log mho mih p0 p1 = some (r, r_0, r_1, r_2, r_3, r_4)) : Met l yX5_acts wsX5_acts rmX5_acts (PM D cI cZ cL [.ref h_m, .int p0, .int p1] [(h_m, .inr (5, [.int th, .int nd, .int sw, .int so, .int lo, .ref h_one, .ref h_oth, .ref h_isb, .int cl, .int ea, .int on, .int lg, .ref h_log, .int wr, .ref a_seq, .int pe, .ref h_mho, .ref h_mih, .ref a_far])), (h_one, .inl (cI, 24, .inl one)), (h_oth, .inl (cI, 24, .inl oth)), (h_isb, .inl (cZ, 24, .inl isb)), (h_log, .inl (cI, 200, .inl log)), (h_mho, .inl (cI, 10, .inl mho)), (h_mih, .inl (cZ, 10, .inl mih))] sz0) (QM D (some (.int r)) (va_A [(h_m, .inr (5, [.int th, .int nd, .int sw, .int so, .int lo, .ref h_one, .ref h_oth, .ref h_isb, .int cl, .int ea, .int on, .int lg, .ref h_log, .int wr, .ref a_seq, .int pe, .ref h_mho, .ref h_mih, .ref a_far])), (h_one, .inl (cI, 24, .inl one)), (h_oth, .inl (cI, 24, .inl oth)), (h_isb, .inl (cZ, 24, .inl isb)), (h_log, .inl (cI, 200, .inl log)), (h_mho, .inl (cI, 10, .inl mho)), (h_mih, .inl (cZ, 10, .inl mih))] sz0) [(h_m, .inr (5, [.int th, .int nd, .int sw, .int so, .int lo, .ref h_one, .ref h_oth, .ref h_isb, .int r_0, .int r_1, .int r_2, .int r_3, .ref h_log, .int wr, .ref a_seq, .int pe, .ref h_mho, .ref h_mih, .ref a_far])), (h_one, .inl (cI, 24, .inl one)), (h_oth, .inl (cI, 24, .inl oth)), (h_isb, .inl (cZ, 24, .inl isb)), (h_log, .inl (cI, 200, .inl r_4)), (h_mho, .inl (cI, 10, .inl mho)), (h_mih, .inl (cZ, 10, .inl mih))]) 0 0 (va_A [(h_m, .inr (5, [.int th, .int nd, .int sw, .int so, .int lo, .ref h_one, .ref h_oth, .ref h_isb, .int cl, .int ea, .int on, .int lg, .ref h_log, .int wr, .ref a_seq, .int pe, .ref h_mho, .ref h_mih, .ref a_far])), (h_one, .inl (cI, 24, .inl one)), (h_oth, .inl (cI, 24, .inl oth)), (h_isb, .inl (cZ, 24, .inl isb)), (h_log, .inl (cI, 200, .inl log)), (h_mho, .inl (cI, 10, .inl mho)), (h_mih, .inl (cZ, 10, .inl mih))] sz0) := by
  refine Met.ofW (cc := cX5_acts) (maxL := 4) (ret := (some .int)) (by decide) rfl ?_
  intro p e s m args below meth c s₁ B hml hv
  obtain ⟨rfl, hsz, hP, hKK, hD0⟩ := hv
  have hK := hKK.1
  have hx := B.exec
  have hb := B.bytes
  have hr := B.returns
  have hts := atoms_spec (ws := wsX5_acts) B.pre
  have hown : s.vm.findClass RX5 = some m.cls := findClass_of_methodNamed B.named
  have hlocks := B.notSynchronized
  subst hsz
  have hD := hD0.self (sz := s.heap.size)
  generalize hAe : va_A [(h_m, .inr (5, [.int th, .int nd, .int sw, .int so, .int lo, .ref h_one, .ref h_oth, .ref h_isb, .int cl, .int ea, .int on, .int lg, .ref h_log, .int wr, .ref a_seq, .int pe, .ref h_mho, .ref h_mih, .ref a_far])), (h_one, .inl (cI, 24, .inl one)), (h_oth, .inl (cI, 24, .inl oth)), (h_isb, .inl (cZ, 24, .inl isb)), (h_log, .inl (cI, 200, .inl log)), (h_mho, .inl (cI, 10, .inl mho)), (h_mih, .inl (cZ, 10, .inl mih))] s.heap.size = A at hD ⊢
  have hA : ∀ q : Nat, s.heap.size ≤ q → A q := fun q h => by rw [← hAe]; exact Or.inr h
  have hS : va_S A s.heap s.heap [] := va_S.rf
  have hl := lv_entry ([.ref h_m, .int p0, .int p1]) (n := 4) (Nat.le_of_ble_eq_true rfl)
  rw [lg_entry_eq]
  generalize (lg_sl ([.ref h_m, .int p0, .int p1]) ++ List.replicate (4 - (lg_sl ([.ref h_m, .int p0, .int p1])).length) Slot.unset).toArray = ls at hl ⊢
  have hl : lv_has ls 4 [(0, .ref h_m), (1, .int p0), (2, .int p1)] := hl
  obtain ⟨QQ, hQQ⟩ : ∃ Z, Z = MQ below (QM D (some (.int r)) A [(h_m, .inr (5, [.int th, .int nd, .int sw, .int so, .int lo, .ref h_one, .ref h_oth, .ref h_isb, .int r_0, .int r_1, .int r_2, .int r_3, .ref h_log, .int wr, .ref a_seq, .int pe, .ref h_mho, .ref h_mih, .ref a_far])), (h_one, .inl (cI, 24, .inl one)), (h_oth, .inl (cI, 24, .inl oth)), (h_isb, .inl (cZ, 24, .inl isb)), (h_log, .inl (cI, 200, .inl r_4)), (h_mho, .inl (cI, 10, .inl mho)), (h_mih, .inl (cZ, 10, .inl mih))]) ([.ref h_m, .int p0, .int p1] : List Value).toArray s 0 0 A := ⟨_, rfl⟩
  rw [← hQQ]
  obtain ⟨H, locs, hHe, hLe⟩ : ∃ (H : Heap) (locs : List Loc), H = s.heap ∧ locs = [] := ⟨_, _, rfl, rfl⟩
  have hP : va_P D vwCl [(h_m, .inr (5, [.int th, .int nd, .int sw, .int so, .int lo, .ref h_one, .ref h_oth, .ref h_isb, .int cl, .int ea, .int on, .int lg, .ref h_log, .int wr, .ref a_seq, .int pe, .ref h_mho, .ref h_mih, .ref a_far])), (h_one, .inl (cI, 24, .inl one)), (h_oth, .inl (cI, 24, .inl oth)), (h_isb, .inl (cZ, 24, .inl isb)), (h_log, .inl (cI, 200, .inl log)), (h_mho, .inl (cI, 10, .inl mho)), (h_mih, .inl (cZ, 10, .inl mih))] H := by rw [hHe]; exact hP
  have hS : va_S A s.heap H locs := by rw [hHe, hLe]; exact hS
  have hW0 : ∀ QQ : State → Prop, W p l e (headSpec wsX5_acts rmX5_acts).room s m (([.ref h_m, .int p0, .int p1] : List Value).toArray) below meth c H locs 0 0 QQ (F0 m 0 ls []) → W p l e (headSpec wsX5_acts rmX5_acts).room s m (([.ref h_m, .int p0, .int p1] : List Value).toArray) below meth c s.heap [] 0 0 QQ (F0 m 0 ls []) := by rw [hHe, hLe]; exact fun _ h => h
  refine hW0 _ ?_
  clear hW0
  unfold fX5_acts at h
  refine lv_aload_n hx hb dX5_acts_0 rfl (lv_at hl 0 rfl) ?_
  refine lv_iload_n hx hb dX5_acts_1 rfl (lv_at hl 1 rfl) ?_
  refine lv_iload_n hx hb dX5_acts_2 rfl (lv_at hl 2 rfl) ?_
  obtain ⟨v2, w3, w4, w5, hq1, h⟩ := bd4_e h
  refine zz_mV (As := [.int p0, .int p1]) (wr := [(h_log, .inl (cI, 200, .inl log))]) (w1 := [(h_m, .inr (5, [.int th, .int nd, .int sw, .int so, .int lo, .ref h_one, .ref h_oth, .ref h_isb, .int w3, .int w4, .int w5, .int lg, .ref h_log, .int wr, .ref a_seq, .int pe, .ref h_mho, .ref h_mih, .ref a_far])), (h_one, .inl (cI, 24, .inl one)), (h_oth, .inl (cI, 24, .inl oth)), (h_isb, .inl (cZ, 24, .inl isb)), (h_mho, .inl (cI, 10, .inl mho)), (h_mih, .inl (cZ, 10, .inl mih))]) (wt' := [(h_m, .inr (5, [.int th, .int nd, .int sw, .int so, .int lo, .ref h_one, .ref h_oth, .ref h_isb, .int w3, .int w4, .int w5, .int lg, .ref h_log, .int wr, .ref a_seq, .int pe, .ref h_mho, .ref h_mih, .ref a_far])), (h_one, .inl (cI, 24, .inl one)), (h_oth, .inl (cI, 24, .inl oth)), (h_isb, .inl (cZ, 24, .inl isb)), (h_log, .inl (cI, 200, .inl log)), (h_mho, .inl (cI, 10, .inl mho)), (h_mih, .inl (cZ, 10, .inl mih))]) (wc := [(h_m, .inr (5, [.int th, .int nd, .int sw, .int so, .int lo, .ref h_one, .ref h_oth, .ref h_isb, .int cl, .int ea, .int on, .int lg, .ref h_log, .int wr, .ref a_seq, .int pe, .ref h_mho, .ref h_mih, .ref a_far])), (h_one, .inl (cI, 24, .inl one)), (h_oth, .inl (cI, 24, .inl oth)), (h_isb, .inl (cZ, 24, .inl isb)), (h_mho, .inl (cI, 10, .inl mho)), (h_mih, .inl (cZ, 10, .inl mih))]) (rv := (some (.int v2))) ⟨hx, hb, hml, hown, hts⟩ (kX5_why l D cI cZ cL H.size h_m h_log a_seq a_far h_one h_oth h_isb h_mho h_mih th nd sw so lo cl ea on lg wr pe one oth isb mho mih p0 p1 N hq1) (cwV 2 hts gX5_acts_X5_why rfl rfl rfl (by decide +kernel) ⟨Nat.le_of_ble_eq_true rfl, Nat.le_of_ble_eq_true rfl⟩) hP hD hS hA hKK [0, 1, 2, 3, 5, 6] [4] [1, 2, 3, 4, 0, 5, 6] rfl rfl (by decide) (by decide) rfl (by decide) (by decide) (va_recv hK hP (ci := 5) (q0 := 0) rfl rfl) rfl hl.1 rfl (Nat.le_of_ble_eq_true rfl) dX5_acts_3 ⟨Nat.le_of_ble_eq_true rfl, Nat.le_of_ble_eq_true rfl⟩ (fun H locs hP hD hS hz9 => ?_)
  show W p l e _ s m _ below meth c H locs _ _ QQ (F0 m 6 ls (.int v2 :: []))
  refine lv_istore_n (lv' := [(3, .int v2), (0, .ref h_m), (1, .int p0), (2, .int p1)]) hx hb dX5_acts_6 rfl hl (by decide) rfl (fun ls hl => ?_)
  refine lv_iload_n hx hb dX5_acts_7 rfl (lv_at hl 0 rfl) ?_
  refine lv_if_ne (tgt := 42) hx hb dX5_acts_8 (by decide) (fun c6 => ?_) (fun c6 => ?_)
  · have h := it_f h c6
    refine lv_iload_n hx hb dX5_acts_42 rfl (lv_at hl 0 rfl) ?_
    cases h
    rw [hQQ]
    exact W.iret hx hb hr (fun t ht hW => ⟨rfl, by rw [ht]; exact hP, hD, hS.F ht⟩) hS.2.2 dX5_acts_43
  · have h := it_t h c6
    refine lv_aload_n hx hb dX5_acts_11 rfl (lv_at hl 1 rfl) ?_
    refine lv_iload_n hx hb dX5_acts_12 rfl (lv_at hl 2 rfl) ?_
    refine lv_iload_n hx hb dX5_acts_13 rfl (lv_at hl 3 rfl) ?_
    obtain ⟨w8, w9, w10, hq7, h⟩ := bd3_e h
    refine zz_mV (As := [.int p0, .int p1]) (wr := [(h_one, .inl (cI, 24, .inl one)), (h_oth, .inl (cI, 24, .inl oth)), (h_isb, .inl (cZ, 24, .inl isb)), (h_log, .inl (cI, 200, .inl log)), (h_mho, .inl (cI, 10, .inl mho)), (h_mih, .inl (cZ, 10, .inl mih))]) (w1 := [(h_m, .inr (5, [.int th, .int nd, .int sw, .int so, .int lo, .ref h_one, .ref h_oth, .ref h_isb, .int w8, .int w9, .int w10, .int lg, .ref h_log, .int wr, .ref a_seq, .int pe, .ref h_mho, .ref h_mih, .ref a_far]))]) (wt' := [(h_m, .inr (5, [.int th, .int nd, .int sw, .int so, .int lo, .ref h_one, .ref h_oth, .ref h_isb, .int w8, .int w9, .int w10, .int lg, .ref h_log, .int wr, .ref a_seq, .int pe, .ref h_mho, .ref h_mih, .ref a_far])), (h_one, .inl (cI, 24, .inl one)), (h_oth, .inl (cI, 24, .inl oth)), (h_isb, .inl (cZ, 24, .inl isb)), (h_log, .inl (cI, 200, .inl log)), (h_mho, .inl (cI, 10, .inl mho)), (h_mih, .inl (cZ, 10, .inl mih))]) (wc := [(h_m, .inr (5, [.int th, .int nd, .int sw, .int so, .int lo, .ref h_one, .ref h_oth, .ref h_isb, .int w3, .int w4, .int w5, .int lg, .ref h_log, .int wr, .ref a_seq, .int pe, .ref h_mho, .ref h_mih, .ref a_far]))]) (rv := none) ⟨hx, hb, hml, hown, hts⟩ (kX5_does l D cI cZ cL H.size h_m h_one h_oth h_isb h_log a_seq h_mho h_mih a_far th nd sw so lo w3 w4 w5 lg wr pe p0 p1 N hq7) (cwV 2 hts gX5_acts_X5_does rfl rfl rfl (by decide +kernel) ⟨Nat.le_of_ble_eq_true rfl, Nat.le_of_ble_eq_true rfl⟩) hP hD hS hA hKK [0] [1, 2, 3, 4, 5, 6] [6, 0, 1, 2, 3, 4, 5] rfl rfl (by decide) (by decide) rfl (by decide) (by decide) (va_recv hK hP (ci := 5) (q0 := 0) rfl rfl) rfl hl.1 rfl (Nat.le_of_ble_eq_true rfl) dX5_acts_14 ⟨Nat.le_of_ble_eq_true rfl, Nat.le_of_ble_eq_true rfl⟩ (fun H locs hP hD hS hz9 => ?_)
    show W p l e _ s m _ below meth c H locs _ _ QQ (F0 m 17 ls [])
    refine lv_aload_n hx hb dX5_acts_17 rfl (lv_at hl 1 rfl) ?_
    refine va_get (D := D) (ci := 5) (v := .ref h_log) (C := RX5) (T := TX5) (N := 19) hx hb hts inX5_acts_X5 hown hK hP 0 rfl rfl 12 (by decide) (hts _ lkX5_acts_0) (fun _ h9 => h9) rfl dX5_acts_18 ?_
    refine lv_aload_n hx hb dX5_acts_21 rfl (lv_at hl 1 rfl) ?_
    refine va_get (D := D) (ci := 5) (v := .int lg) (C := RX5) (T := TX5) (N := 19) hx hb hts inX5_acts_X5 hown hK hP 0 rfl rfl 11 (by decide) (hts _ lkX5_acts_1) (fun _ h9 => h9) rfl dX5_acts_22 ?_
    refine lv_bipush (v := 100) hx hb dX5_acts_25 (by decide) ?_
    refine lv_iload_n hx hb dX5_acts_27 rfl (lv_at hl 2 rfl) ?_
    refine lv_imul hx hb dX5_acts_28 ?_
    refine lv_iload_n hx hb dX5_acts_29 rfl (lv_at hl 3 rfl) ?_
    refine lv_iadd hx hb dX5_acts_30 ?_
    obtain ⟨hi11, h⟩ := gin_e h
    refine va_iast hx hb hK hP hD hS 4 0 rfl rfl hi11 dX5_acts_31 (fun H locs hP hD hS => ?_)
    have hP : va_P D vwCl [(h_m, .inr (5, [.int th, .int nd, .int sw, .int so, .int lo, .ref h_one, .ref h_oth, .ref h_isb, .int w8, .int w9, .int w10, .int lg, .ref h_log, .int wr, .ref a_seq, .int pe, .ref h_mho, .ref h_mih, .ref a_far])), (h_one, .inl (cI, 24, .inl one)), (h_oth, .inl (cI, 24, .inl oth)), (h_isb, .inl (cZ, 24, .inl isb)), (h_log, .inl (cI, 200, .inl (upd log lg.toNatClampNeg (((100 : Int32) * p0) + p1)))), (h_mho, .inl (cI, 10, .inl mho)), (h_mih, .inl (cZ, 10, .inl mih))] H := hP
    have hD : va_D A [(h_m, .inr (5, [.int th, .int nd, .int sw, .int so, .int lo, .ref h_one, .ref h_oth, .ref h_isb, .int w8, .int w9, .int w10, .int lg, .ref h_log, .int wr, .ref a_seq, .int pe, .ref h_mho, .ref h_mih, .ref a_far])), (h_one, .inl (cI, 24, .inl one)), (h_oth, .inl (cI, 24, .inl oth)), (h_isb, .inl (cZ, 24, .inl isb)), (h_log, .inl (cI, 200, .inl (upd log lg.toNatClampNeg (((100 : Int32) * p0) + p1)))), (h_mho, .inl (cI, 10, .inl mho)), (h_mih, .inl (cZ, 10, .inl mih))] := hD
    refine lv_aload_n hx hb dX5_acts_32 rfl (lv_at hl 1 rfl) ?_
    refine lv_dup hx hb dX5_acts_33 rfl ?_
    refine va_get (D := D) (ci := 5) (v := .int lg) (C := RX5) (T := TX5) (N := 19) hx hb hts inX5_acts_X5 hown hK hP 0 rfl rfl 11 (by decide) (hts _ lkX5_acts_1) (fun _ h9 => h9) rfl dX5_acts_34 ?_
    refine lv_iconst (v := 1) hx hb dX5_acts_37 (by decide) ?_
    refine lv_iadd hx hb dX5_acts_38 ?_
    refine va_put (D := D) (ci := 5) (v := .int (lg + 1)) (ty := .int) (C := RX5) (T := TX5) (N := 19) hx hb hts inX5_acts_X5 tyX5 tyX5_ok nmX5 hown hK hP hD hS 0 rfl rfl 11 (by decide) (hts _ lkX5_acts_1) (fun _ h9 => h9) rfl (by decide +kernel) rfl rfl (Nat.le_of_ble_eq_true rfl) dX5_acts_39 (fun H locs hP hD hS => ?_)
    have hP : va_P D vwCl [(h_m, .inr (5, [.int th, .int nd, .int sw, .int so, .int lo, .ref h_one, .ref h_oth, .ref h_isb, .int w8, .int w9, .int w10, .int (lg + 1), .ref h_log, .int wr, .ref a_seq, .int pe, .ref h_mho, .ref h_mih, .ref a_far])), (h_one, .inl (cI, 24, .inl one)), (h_oth, .inl (cI, 24, .inl oth)), (h_isb, .inl (cZ, 24, .inl isb)), (h_log, .inl (cI, 200, .inl (upd log lg.toNatClampNeg (((100 : Int32) * p0) + p1)))), (h_mho, .inl (cI, 10, .inl mho)), (h_mih, .inl (cZ, 10, .inl mih))] H := hP
    have hD : va_D A [(h_m, .inr (5, [.int th, .int nd, .int sw, .int so, .int lo, .ref h_one, .ref h_oth, .ref h_isb, .int w8, .int w9, .int w10, .int (lg + 1), .ref h_log, .int wr, .ref a_seq, .int pe, .ref h_mho, .ref h_mih, .ref a_far])), (h_one, .inl (cI, 24, .inl one)), (h_oth, .inl (cI, 24, .inl oth)), (h_isb, .inl (cZ, 24, .inl isb)), (h_log, .inl (cI, 200, .inl (upd log lg.toNatClampNeg (((100 : Int32) * p0) + p1)))), (h_mho, .inl (cI, 10, .inl mho)), (h_mih, .inl (cZ, 10, .inl mih))] := hD
    refine lv_iload_n hx hb dX5_acts_42 rfl (lv_at hl 0 rfl) ?_
    cases h
    rw [hQQ]
    exact W.iret hx hb hr (fun t ht hW => ⟨rfl, by rw [ht]; exact hP, hD, hS.F ht⟩) hS.2.2 dX5_acts_43

def fX5_act (N : Nat) (th : Int32) (nd : Int32) (sw : Int32) (so : Int32) (lo : Int32) (cl : Int32) (ea : Int32) (on : Int32) (lg : Int32) (wr : Int32) (pe : Int32) (one : Nat → Int32) (oth : Nat → Int32) (isb : Nat → Int32) (log : Nat → Int32) (mho : Nat → Int32) (mih : Nat → Int32) (p0 : Int32) (p1 : Int32) : Option ((Int32) × (Int32) × (Int32) × (Int32) × (Int32) × (Int32) × (Nat → Int32)) :=
  bd2 (fX5_asks N th nd sw so lo cl ea on lg wr pe p0 p1) (fun v2 w3 => jn6 (fun (w4 : Int32) (w5 : Int32) (w6 : Int32) (w7 : Int32) (w8 : Int32) (w9 : Nat → Int32) => (if w4 ≤ 0 then bd6 (fX5_acts N w4 nd sw so lo w5 w6 w7 w8 wr pe one oth isb w9 mho mih p0 p1) (fun v14 w15 w16 w17 w18 w19 => some (v14, w4, w15, w16, w17, w18, w19)) else some (0, w4, w5, w6, w7, w8, w9))) (fun g28_10 => (if v2 = 0 then g28_10 w3 cl ea on lg log else (if lg = 200 then g28_10 3 cl ea on lg log else g28_10 0 cl ea on lg log))))
set_option maxRecDepth 100000 in
theorem inX5_act_X5 : ∀ w ∈ wsX50, w ∈ wsX5_act := by decide +kernel
set_option maxRecDepth 100000 in
theorem lkX5_act_0 : (.fieldLink RX5 35 "SwitchlogModel" "thrown" "I" : Cond) ∈ wsX5_act := by decide +kernel
set_option maxRecDepth 100000 in
theorem lkX5_act_1 : (.fieldLink RX5 124 "SwitchlogModel" "logged" "I" : Cond) ∈ wsX5_act := by decide +kernel
abbrev rmX5_act : Room := { frames := 8, cells := 0, slots := 0, locals := 184 }
set_option maxHeartbeats 4000000 in
set_option maxRecDepth 100000 in
theorem kX5_act (l : Launch) (D : va_G) (cI cZ cL : ClassId) (sz0 : Nat) (h_m a_seq a_far h_one h_oth h_isb h_log h_mho h_mih : Nat) (th : Int32) (nd : Int32) (sw : Int32) (so : Int32) (lo : Int32) (cl : Int32) (ea : Int32) (on : Int32) (lg : Int32) (wr : Int32) (pe : Int32) (one : Nat → Int32) (oth : Nat → Int32) (isb : Nat → Int32) (log : Nat → Int32) (mho : Nat → Int32) (mih : Nat → Int32) (p0 : Int32) (p1 : Int32) (N : Nat) {r : Int32} {r_0 : Int32} {r_1 : Int32} {r_2 : Int32} {r_3 : Int32} {r_4 : Int32} {r_5 : Nat → Int32} (h : fX5_act N th nd sw so lo cl ea on lg wr pe one oth isb log mho mih p0 p1 = some (r, r_0, r_1, r_2, r_3, r_4, r_5)) : Met l yX5_act wsX5_act rmX5_act (PM D cI cZ cL [.ref h_m, .int p0, .int p1] [(h_m, .inr (5, [.int th, .int nd, .int sw, .int so, .int lo, .ref h_one, .ref h_oth, .ref h_isb, .int cl, .int ea, .int on, .int lg, .ref h_log, .int wr, .ref a_seq, .int pe, .ref h_mho, .ref h_mih, .ref a_far])), (h_one, .inl (cI, 24, .inl one)), (h_oth, .inl (cI, 24, .inl oth)), (h_isb, .inl (cZ, 24, .inl isb)), (h_log, .inl (cI, 200, .inl log)), (h_mho, .inl (cI, 10, .inl mho)), (h_mih, .inl (cZ, 10, .inl mih))] sz0) (QM D (some (.int r)) (va_A [(h_m, .inr (5, [.int th, .int nd, .int sw, .int so, .int lo, .ref h_one, .ref h_oth, .ref h_isb, .int cl, .int ea, .int on, .int lg, .ref h_log, .int wr, .ref a_seq, .int pe, .ref h_mho, .ref h_mih, .ref a_far])), (h_one, .inl (cI, 24, .inl one)), (h_oth, .inl (cI, 24, .inl oth)), (h_isb, .inl (cZ, 24, .inl isb)), (h_log, .inl (cI, 200, .inl log)), (h_mho, .inl (cI, 10, .inl mho)), (h_mih, .inl (cZ, 10, .inl mih))] sz0) [(h_m, .inr (5, [.int r_0, .int nd, .int sw, .int so, .int lo, .ref h_one, .ref h_oth, .ref h_isb, .int r_1, .int r_2, .int r_3, .int r_4, .ref h_log, .int wr, .ref a_seq, .int pe, .ref h_mho, .ref h_mih, .ref a_far])), (h_one, .inl (cI, 24, .inl one)), (h_oth, .inl (cI, 24, .inl oth)), (h_isb, .inl (cZ, 24, .inl isb)), (h_log, .inl (cI, 200, .inl r_5)), (h_mho, .inl (cI, 10, .inl mho)), (h_mih, .inl (cZ, 10, .inl mih))]) 0 0 (va_A [(h_m, .inr (5, [.int th, .int nd, .int sw, .int so, .int lo, .ref h_one, .ref h_oth, .ref h_isb, .int cl, .int ea, .int on, .int lg, .ref h_log, .int wr, .ref a_seq, .int pe, .ref h_mho, .ref h_mih, .ref a_far])), (h_one, .inl (cI, 24, .inl one)), (h_oth, .inl (cI, 24, .inl oth)), (h_isb, .inl (cZ, 24, .inl isb)), (h_log, .inl (cI, 200, .inl log)), (h_mho, .inl (cI, 10, .inl mho)), (h_mih, .inl (cZ, 10, .inl mih))] sz0) := by
  refine Met.ofW (cc := cX5_act) (maxL := 3) (ret := (some .int)) (by decide) rfl ?_
  intro p e s m args below meth c s₁ B hml hv
  obtain ⟨rfl, hsz, hP, hKK, hD0⟩ := hv
  have hK := hKK.1
  have hx := B.exec
  have hb := B.bytes
  have hr := B.returns
  have hts := atoms_spec (ws := wsX5_act) B.pre
  have hown : s.vm.findClass RX5 = some m.cls := findClass_of_methodNamed B.named
  have hlocks := B.notSynchronized
  subst hsz
  have hD := hD0.self (sz := s.heap.size)
  generalize hAe : va_A [(h_m, .inr (5, [.int th, .int nd, .int sw, .int so, .int lo, .ref h_one, .ref h_oth, .ref h_isb, .int cl, .int ea, .int on, .int lg, .ref h_log, .int wr, .ref a_seq, .int pe, .ref h_mho, .ref h_mih, .ref a_far])), (h_one, .inl (cI, 24, .inl one)), (h_oth, .inl (cI, 24, .inl oth)), (h_isb, .inl (cZ, 24, .inl isb)), (h_log, .inl (cI, 200, .inl log)), (h_mho, .inl (cI, 10, .inl mho)), (h_mih, .inl (cZ, 10, .inl mih))] s.heap.size = A at hD ⊢
  have hA : ∀ q : Nat, s.heap.size ≤ q → A q := fun q h => by rw [← hAe]; exact Or.inr h
  have hS : va_S A s.heap s.heap [] := va_S.rf
  have hl := lv_entry ([.ref h_m, .int p0, .int p1]) (n := 3) (Nat.le_of_ble_eq_true rfl)
  rw [lg_entry_eq]
  generalize (lg_sl ([.ref h_m, .int p0, .int p1]) ++ List.replicate (3 - (lg_sl ([.ref h_m, .int p0, .int p1])).length) Slot.unset).toArray = ls at hl ⊢
  have hl : lv_has ls 3 [(0, .ref h_m), (1, .int p0), (2, .int p1)] := hl
  obtain ⟨QQ, hQQ⟩ : ∃ Z, Z = MQ below (QM D (some (.int r)) A [(h_m, .inr (5, [.int r_0, .int nd, .int sw, .int so, .int lo, .ref h_one, .ref h_oth, .ref h_isb, .int r_1, .int r_2, .int r_3, .int r_4, .ref h_log, .int wr, .ref a_seq, .int pe, .ref h_mho, .ref h_mih, .ref a_far])), (h_one, .inl (cI, 24, .inl one)), (h_oth, .inl (cI, 24, .inl oth)), (h_isb, .inl (cZ, 24, .inl isb)), (h_log, .inl (cI, 200, .inl r_5)), (h_mho, .inl (cI, 10, .inl mho)), (h_mih, .inl (cZ, 10, .inl mih))]) ([.ref h_m, .int p0, .int p1] : List Value).toArray s 0 0 A := ⟨_, rfl⟩
  rw [← hQQ]
  obtain ⟨H, locs, hHe, hLe⟩ : ∃ (H : Heap) (locs : List Loc), H = s.heap ∧ locs = [] := ⟨_, _, rfl, rfl⟩
  have hP : va_P D vwCl [(h_m, .inr (5, [.int th, .int nd, .int sw, .int so, .int lo, .ref h_one, .ref h_oth, .ref h_isb, .int cl, .int ea, .int on, .int lg, .ref h_log, .int wr, .ref a_seq, .int pe, .ref h_mho, .ref h_mih, .ref a_far])), (h_one, .inl (cI, 24, .inl one)), (h_oth, .inl (cI, 24, .inl oth)), (h_isb, .inl (cZ, 24, .inl isb)), (h_log, .inl (cI, 200, .inl log)), (h_mho, .inl (cI, 10, .inl mho)), (h_mih, .inl (cZ, 10, .inl mih))] H := by rw [hHe]; exact hP
  have hS : va_S A s.heap H locs := by rw [hHe, hLe]; exact hS
  have hW0 : ∀ QQ : State → Prop, W p l e (headSpec wsX5_act rmX5_act).room s m (([.ref h_m, .int p0, .int p1] : List Value).toArray) below meth c H locs 0 0 QQ (F0 m 0 ls []) → W p l e (headSpec wsX5_act rmX5_act).room s m (([.ref h_m, .int p0, .int p1] : List Value).toArray) below meth c s.heap [] 0 0 QQ (F0 m 0 ls []) := by rw [hHe, hLe]; exact fun _ h => h
  refine hW0 _ ?_
  clear hW0
  unfold fX5_act at h
  refine lv_aload_n hx hb dX5_act_0 rfl (lv_at hl 0 rfl) ?_
  refine lv_iload_n hx hb dX5_act_1 rfl (lv_at hl 1 rfl) ?_
  refine lv_iload_n hx hb dX5_act_2 rfl (lv_at hl 2 rfl) ?_
  obtain ⟨v2, w3, hq1, h⟩ := bd2_e h
  refine zz_mV (As := [.int p0, .int p1]) (wr := [(h_one, .inl (cI, 24, .inl one)), (h_oth, .inl (cI, 24, .inl oth)), (h_isb, .inl (cZ, 24, .inl isb)), (h_log, .inl (cI, 200, .inl log)), (h_mho, .inl (cI, 10, .inl mho)), (h_mih, .inl (cZ, 10, .inl mih))]) (w1 := [(h_m, .inr (5, [.int w3, .int nd, .int sw, .int so, .int lo, .ref h_one, .ref h_oth, .ref h_isb, .int cl, .int ea, .int on, .int lg, .ref h_log, .int wr, .ref a_seq, .int pe, .ref h_mho, .ref h_mih, .ref a_far]))]) (wt' := [(h_m, .inr (5, [.int w3, .int nd, .int sw, .int so, .int lo, .ref h_one, .ref h_oth, .ref h_isb, .int cl, .int ea, .int on, .int lg, .ref h_log, .int wr, .ref a_seq, .int pe, .ref h_mho, .ref h_mih, .ref a_far])), (h_one, .inl (cI, 24, .inl one)), (h_oth, .inl (cI, 24, .inl oth)), (h_isb, .inl (cZ, 24, .inl isb)), (h_log, .inl (cI, 200, .inl log)), (h_mho, .inl (cI, 10, .inl mho)), (h_mih, .inl (cZ, 10, .inl mih))]) (wc := [(h_m, .inr (5, [.int th, .int nd, .int sw, .int so, .int lo, .ref h_one, .ref h_oth, .ref h_isb, .int cl, .int ea, .int on, .int lg, .ref h_log, .int wr, .ref a_seq, .int pe, .ref h_mho, .ref h_mih, .ref a_far]))]) (rv := (some (.int v2))) ⟨hx, hb, hml, hown, hts⟩ (kX5_asks l D cI cZ cL H.size h_m h_one h_oth h_isb h_log a_seq h_mho h_mih a_far th nd sw so lo cl ea on lg wr pe p0 p1 N hq1) (cwV 2 hts gX5_act_X5_asks rfl rfl rfl (by decide +kernel) ⟨Nat.le_of_ble_eq_true rfl, Nat.le_of_ble_eq_true rfl⟩) hP hD hS hA hKK [0] [1, 2, 3, 4, 5, 6] [6, 0, 1, 2, 3, 4, 5] rfl rfl (by decide) (by decide) rfl (by decide) (by decide) (va_recv hK hP (ci := 5) (q0 := 0) rfl rfl) rfl hl.1 rfl (Nat.le_of_ble_eq_true rfl) dX5_act_3 ⟨Nat.le_of_ble_eq_true rfl, Nat.le_of_ble_eq_true rfl⟩ (fun H locs hP hD hS hz9 => ?_)
  show W p l e _ s m _ below meth c H locs _ _ QQ (F0 m 6 ls (.int v2 :: []))
  refine jn6_e (fun (w4 : Int32) (w5 : Int32) (w6 : Int32) (w7 : Int32) (w8 : Int32) (w9 : Nat → Int32) => ∀ (H : Heap) (locs : List Loc) (ls : Array Slot), va_P D vwCl [(h_m, .inr (5, [.int w4, .int nd, .int sw, .int so, .int lo, .ref h_one, .ref h_oth, .ref h_isb, .int w5, .int w6, .int w7, .int w8, .ref h_log, .int wr, .ref a_seq, .int pe, .ref h_mho, .ref h_mih, .ref a_far])), (h_one, .inl (cI, 24, .inl one)), (h_oth, .inl (cI, 24, .inl oth)), (h_isb, .inl (cZ, 24, .inl isb)), (h_log, .inl (cI, 200, .inl w9)), (h_mho, .inl (cI, 10, .inl mho)), (h_mih, .inl (cZ, 10, .inl mih))] H → va_D A [(h_m, .inr (5, [.int w4, .int nd, .int sw, .int so, .int lo, .ref h_one, .ref h_oth, .ref h_isb, .int w5, .int w6, .int w7, .int w8, .ref h_log, .int wr, .ref a_seq, .int pe, .ref h_mho, .ref h_mih, .ref a_far])), (h_one, .inl (cI, 24, .inl one)), (h_oth, .inl (cI, 24, .inl oth)), (h_isb, .inl (cZ, 24, .inl isb)), (h_log, .inl (cI, 200, .inl w9)), (h_mho, .inl (cI, 10, .inl mho)), (h_mih, .inl (cZ, 10, .inl mih))] → va_S A s.heap H locs → lv_has ls 3 [(0, .ref h_m), (1, .int p0), (2, .int p1)] → W p l e (headSpec wsX5_act rmX5_act).room s m (([.ref h_m, .int p0, .int p1] : List Value).toArray) below meth c H locs 0 0 QQ (F0 m 28 ls [])) h (fun w4 w5 w6 w7 w8 w9 h H locs ls hP hD hS hl => ?_) (fun g28_10 hg28_11 h => ?_)
  · refine lv_aload_n hx hb dX5_act_28 rfl (lv_at hl 0 rfl) ?_
    refine va_get (D := D) (ci := 5) (v := .int w4) (C := RX5) (T := TX5) (N := 19) hx hb hts inX5_act_X5 hown hK hP 0 rfl rfl 0 (by decide) (hts _ lkX5_act_0) (fun _ h9 => h9) rfl dX5_act_29 ?_
    refine lv_if_le (tgt := 39) hx hb dX5_act_32 (by decide) (fun c12 => ?_) (fun c12 => ?_)
    · have h := it_t h c12
      refine lv_aload_n hx hb dX5_act_39 rfl (lv_at hl 0 rfl) ?_
      refine lv_iload_n hx hb dX5_act_40 rfl (lv_at hl 1 rfl) ?_
      refine lv_iload_n hx hb dX5_act_41 rfl (lv_at hl 2 rfl) ?_
      obtain ⟨v14, w15, w16, w17, w18, w19, hq13, h⟩ := bd6_e h
      refine zz_mV (As := [.int p0, .int p1]) (wr := []) (w1 := [(h_m, .inr (5, [.int w4, .int nd, .int sw, .int so, .int lo, .ref h_one, .ref h_oth, .ref h_isb, .int w15, .int w16, .int w17, .int w18, .ref h_log, .int wr, .ref a_seq, .int pe, .ref h_mho, .ref h_mih, .ref a_far])), (h_one, .inl (cI, 24, .inl one)), (h_oth, .inl (cI, 24, .inl oth)), (h_isb, .inl (cZ, 24, .inl isb)), (h_log, .inl (cI, 200, .inl w19)), (h_mho, .inl (cI, 10, .inl mho)), (h_mih, .inl (cZ, 10, .inl mih))]) (wt' := [(h_m, .inr (5, [.int w4, .int nd, .int sw, .int so, .int lo, .ref h_one, .ref h_oth, .ref h_isb, .int w15, .int w16, .int w17, .int w18, .ref h_log, .int wr, .ref a_seq, .int pe, .ref h_mho, .ref h_mih, .ref a_far])), (h_one, .inl (cI, 24, .inl one)), (h_oth, .inl (cI, 24, .inl oth)), (h_isb, .inl (cZ, 24, .inl isb)), (h_log, .inl (cI, 200, .inl w19)), (h_mho, .inl (cI, 10, .inl mho)), (h_mih, .inl (cZ, 10, .inl mih))]) (wc := [(h_m, .inr (5, [.int w4, .int nd, .int sw, .int so, .int lo, .ref h_one, .ref h_oth, .ref h_isb, .int w5, .int w6, .int w7, .int w8, .ref h_log, .int wr, .ref a_seq, .int pe, .ref h_mho, .ref h_mih, .ref a_far])), (h_one, .inl (cI, 24, .inl one)), (h_oth, .inl (cI, 24, .inl oth)), (h_isb, .inl (cZ, 24, .inl isb)), (h_log, .inl (cI, 200, .inl w9)), (h_mho, .inl (cI, 10, .inl mho)), (h_mih, .inl (cZ, 10, .inl mih))]) (rv := (some (.int v14))) ⟨hx, hb, hml, hown, hts⟩ (kX5_acts l D cI cZ cL H.size h_m a_seq a_far h_one h_oth h_isb h_log h_mho h_mih w4 nd sw so lo w5 w6 w7 w8 wr pe one oth isb w9 mho mih p0 p1 N hq13) (cwV 2 hts gX5_act_X5_acts rfl rfl rfl (by decide +kernel) ⟨Nat.le_of_ble_eq_true rfl, Nat.le_of_ble_eq_true rfl⟩) hP hD hS hA hKK [0, 1, 2, 3, 4, 5, 6] [] [0, 1, 2, 3, 4, 5, 6] rfl rfl (by decide) (by decide) rfl (by decide) (by decide) (va_recv hK hP (ci := 5) (q0 := 0) rfl rfl) rfl hl.1 rfl (Nat.le_of_ble_eq_true rfl) dX5_act_42 ⟨Nat.le_of_ble_eq_true rfl, Nat.le_of_ble_eq_true rfl⟩ (fun H locs hP hD hS hz9 => ?_)
      show W p l e _ s m _ below meth c H locs _ _ QQ (F0 m 45 ls (.int v14 :: []))
      cases h
      rw [hQQ]
      exact W.iret hx hb hr (fun t ht hW => ⟨rfl, by rw [ht]; exact hP, hD, hS.F ht⟩) hS.2.2 dX5_act_45
    · have h := it_f h c12
      refine lv_iconst (v := 0) hx hb dX5_act_35 (by decide) ?_
      refine lv_goto (tgt := 45) hx hb dX5_act_36 (by decide) ?_
      cases h
      rw [hQQ]
      exact W.iret hx hb hr (fun t ht hW => ⟨rfl, by rw [ht]; exact hP, hD, hS.F ht⟩) hS.2.2 dX5_act_45
  · refine lv_if_eq (tgt := 28) hx hb dX5_act_6 (by decide) (fun c20 => ?_) (fun c20 => ?_)
    · have h := it_t h c20
      exact hg28_11 w3 cl ea on lg log h H locs ls hP hD hS (lv_sub hl [0, 1, 2] rfl)
    · have h := it_f h c20
      refine lv_aload_n hx hb dX5_act_9 rfl (lv_at hl 0 rfl) ?_
      refine lv_aload_n hx hb dX5_act_10 rfl (lv_at hl 0 rfl) ?_
      refine va_get (D := D) (ci := 5) (v := .int lg) (C := RX5) (T := TX5) (N := 19) hx hb hts inX5_act_X5 hown hK hP 0 rfl rfl 11 (by decide) (hts _ lkX5_act_1) (fun _ h9 => h9) rfl dX5_act_11 ?_
      refine lv_sipush (v := 200) hx hb dX5_act_14 (by decide) ?_
      refine lv_icmp_ne (tgt := 24) hx hb dX5_act_17 (by decide) (fun c21 => ?_) (fun c21 => ?_)
      · have h := it_f h c21
        refine lv_iconst (v := 0) hx hb dX5_act_24 (by decide) ?_
        refine va_put (D := D) (ci := 5) (v := .int 0) (ty := .int) (C := RX5) (T := TX5) (N := 19) hx hb hts inX5_act_X5 tyX5 tyX5_ok nmX5 hown hK hP hD hS 0 rfl rfl 0 (by decide) (hts _ lkX5_act_0) (fun _ h9 => h9) rfl (by decide +kernel) rfl rfl (Nat.le_of_ble_eq_true rfl) dX5_act_25 (fun H locs hP hD hS => ?_)
        have hP : va_P D vwCl [(h_m, .inr (5, [.int 0, .int nd, .int sw, .int so, .int lo, .ref h_one, .ref h_oth, .ref h_isb, .int cl, .int ea, .int on, .int lg, .ref h_log, .int wr, .ref a_seq, .int pe, .ref h_mho, .ref h_mih, .ref a_far])), (h_one, .inl (cI, 24, .inl one)), (h_oth, .inl (cI, 24, .inl oth)), (h_isb, .inl (cZ, 24, .inl isb)), (h_log, .inl (cI, 200, .inl log)), (h_mho, .inl (cI, 10, .inl mho)), (h_mih, .inl (cZ, 10, .inl mih))] H := hP
        have hD : va_D A [(h_m, .inr (5, [.int 0, .int nd, .int sw, .int so, .int lo, .ref h_one, .ref h_oth, .ref h_isb, .int cl, .int ea, .int on, .int lg, .ref h_log, .int wr, .ref a_seq, .int pe, .ref h_mho, .ref h_mih, .ref a_far])), (h_one, .inl (cI, 24, .inl one)), (h_oth, .inl (cI, 24, .inl oth)), (h_isb, .inl (cZ, 24, .inl isb)), (h_log, .inl (cI, 200, .inl log)), (h_mho, .inl (cI, 10, .inl mho)), (h_mih, .inl (cZ, 10, .inl mih))] := hD
        exact hg28_11 0 cl ea on lg log h H locs ls hP hD hS (lv_sub hl [0, 1, 2] rfl)
      · have h := it_t h c21
        refine lv_iconst (v := 3) hx hb dX5_act_20 (by decide) ?_
        refine lv_goto (tgt := 25) hx hb dX5_act_21 (by decide) ?_
        refine va_put (D := D) (ci := 5) (v := .int 3) (ty := .int) (C := RX5) (T := TX5) (N := 19) hx hb hts inX5_act_X5 tyX5 tyX5_ok nmX5 hown hK hP hD hS 0 rfl rfl 0 (by decide) (hts _ lkX5_act_0) (fun _ h9 => h9) rfl (by decide +kernel) rfl rfl (Nat.le_of_ble_eq_true rfl) dX5_act_25 (fun H locs hP hD hS => ?_)
        have hP : va_P D vwCl [(h_m, .inr (5, [.int 3, .int nd, .int sw, .int so, .int lo, .ref h_one, .ref h_oth, .ref h_isb, .int cl, .int ea, .int on, .int lg, .ref h_log, .int wr, .ref a_seq, .int pe, .ref h_mho, .ref h_mih, .ref a_far])), (h_one, .inl (cI, 24, .inl one)), (h_oth, .inl (cI, 24, .inl oth)), (h_isb, .inl (cZ, 24, .inl isb)), (h_log, .inl (cI, 200, .inl log)), (h_mho, .inl (cI, 10, .inl mho)), (h_mih, .inl (cZ, 10, .inl mih))] H := hP
        have hD : va_D A [(h_m, .inr (5, [.int 3, .int nd, .int sw, .int so, .int lo, .ref h_one, .ref h_oth, .ref h_isb, .int cl, .int ea, .int on, .int lg, .ref h_log, .int wr, .ref a_seq, .int pe, .ref h_mho, .ref h_mih, .ref a_far])), (h_one, .inl (cI, 24, .inl one)), (h_oth, .inl (cI, 24, .inl oth)), (h_isb, .inl (cZ, 24, .inl isb)), (h_log, .inl (cI, 200, .inl log)), (h_mho, .inl (cI, 10, .inl mho)), (h_mih, .inl (cZ, 10, .inl mih))] := hD
        exact hg28_11 3 cl ea on lg log h H locs ls hP hD hS (lv_sub hl [0, 1, 2] rfl)

def fX5_reason (N : Nat) (th : Int32) (nd : Int32) (sw : Int32) (so : Int32) (lo : Int32) (cl : Int32) (ea : Int32) (on : Int32) (lg : Int32) (wr : Int32) (pe : Int32) (one : Nat → Int32) (oth : Nat → Int32) (isb : Nat → Int32) (mho : Nat → Int32) (mih : Nat → Int32) (p0 : Int32) (p1 : Int32) : Option ((Int32) × (Int32) × (Int32) × (Int32) × (Int32)) :=
  bd2 (fX5_asks N th nd sw so lo cl ea on lg wr pe p0 p1) (fun v2 w3 => (if v2 = 0 then some (0, w3, cl, ea, on) else bd4 (fX5_why N w3 nd sw so lo cl ea on lg wr pe one oth isb mho mih p0 p1) (fun v6 w7 w8 w9 => some (v6, w3, w7, w8, w9))))
abbrev rmX5_reason : Room := { frames := 7, cells := 0, slots := 0, locals := 161 }
set_option maxHeartbeats 4000000 in
set_option maxRecDepth 100000 in
theorem kX5_reason (l : Launch) (D : va_G) (cI cZ cL : ClassId) (sz0 : Nat) (h_m a_log a_seq a_far h_one h_oth h_isb h_mho h_mih : Nat) (th : Int32) (nd : Int32) (sw : Int32) (so : Int32) (lo : Int32) (cl : Int32) (ea : Int32) (on : Int32) (lg : Int32) (wr : Int32) (pe : Int32) (one : Nat → Int32) (oth : Nat → Int32) (isb : Nat → Int32) (mho : Nat → Int32) (mih : Nat → Int32) (p0 : Int32) (p1 : Int32) (N : Nat) {r : Int32} {r_0 : Int32} {r_1 : Int32} {r_2 : Int32} {r_3 : Int32} (h : fX5_reason N th nd sw so lo cl ea on lg wr pe one oth isb mho mih p0 p1 = some (r, r_0, r_1, r_2, r_3)) : Met l yX5_reason wsX5_reason rmX5_reason (PM D cI cZ cL [.ref h_m, .int p0, .int p1] [(h_m, .inr (5, [.int th, .int nd, .int sw, .int so, .int lo, .ref h_one, .ref h_oth, .ref h_isb, .int cl, .int ea, .int on, .int lg, .ref a_log, .int wr, .ref a_seq, .int pe, .ref h_mho, .ref h_mih, .ref a_far])), (h_one, .inl (cI, 24, .inl one)), (h_oth, .inl (cI, 24, .inl oth)), (h_isb, .inl (cZ, 24, .inl isb)), (h_mho, .inl (cI, 10, .inl mho)), (h_mih, .inl (cZ, 10, .inl mih))] sz0) (QM D (some (.int r)) (va_A [(h_m, .inr (5, [.int th, .int nd, .int sw, .int so, .int lo, .ref h_one, .ref h_oth, .ref h_isb, .int cl, .int ea, .int on, .int lg, .ref a_log, .int wr, .ref a_seq, .int pe, .ref h_mho, .ref h_mih, .ref a_far])), (h_one, .inl (cI, 24, .inl one)), (h_oth, .inl (cI, 24, .inl oth)), (h_isb, .inl (cZ, 24, .inl isb)), (h_mho, .inl (cI, 10, .inl mho)), (h_mih, .inl (cZ, 10, .inl mih))] sz0) [(h_m, .inr (5, [.int r_0, .int nd, .int sw, .int so, .int lo, .ref h_one, .ref h_oth, .ref h_isb, .int r_1, .int r_2, .int r_3, .int lg, .ref a_log, .int wr, .ref a_seq, .int pe, .ref h_mho, .ref h_mih, .ref a_far])), (h_one, .inl (cI, 24, .inl one)), (h_oth, .inl (cI, 24, .inl oth)), (h_isb, .inl (cZ, 24, .inl isb)), (h_mho, .inl (cI, 10, .inl mho)), (h_mih, .inl (cZ, 10, .inl mih))]) 0 0 (va_A [(h_m, .inr (5, [.int th, .int nd, .int sw, .int so, .int lo, .ref h_one, .ref h_oth, .ref h_isb, .int cl, .int ea, .int on, .int lg, .ref a_log, .int wr, .ref a_seq, .int pe, .ref h_mho, .ref h_mih, .ref a_far])), (h_one, .inl (cI, 24, .inl one)), (h_oth, .inl (cI, 24, .inl oth)), (h_isb, .inl (cZ, 24, .inl isb)), (h_mho, .inl (cI, 10, .inl mho)), (h_mih, .inl (cZ, 10, .inl mih))] sz0) := by
  refine Met.ofW (cc := cX5_reason) (maxL := 3) (ret := (some .int)) (by decide) rfl ?_
  intro p e s m args below meth c s₁ B hml hv
  obtain ⟨rfl, hsz, hP, hKK, hD0⟩ := hv
  have hK := hKK.1
  have hx := B.exec
  have hb := B.bytes
  have hr := B.returns
  have hts := atoms_spec (ws := wsX5_reason) B.pre
  have hown : s.vm.findClass RX5 = some m.cls := findClass_of_methodNamed B.named
  have hlocks := B.notSynchronized
  subst hsz
  have hD := hD0.self (sz := s.heap.size)
  generalize hAe : va_A [(h_m, .inr (5, [.int th, .int nd, .int sw, .int so, .int lo, .ref h_one, .ref h_oth, .ref h_isb, .int cl, .int ea, .int on, .int lg, .ref a_log, .int wr, .ref a_seq, .int pe, .ref h_mho, .ref h_mih, .ref a_far])), (h_one, .inl (cI, 24, .inl one)), (h_oth, .inl (cI, 24, .inl oth)), (h_isb, .inl (cZ, 24, .inl isb)), (h_mho, .inl (cI, 10, .inl mho)), (h_mih, .inl (cZ, 10, .inl mih))] s.heap.size = A at hD ⊢
  have hA : ∀ q : Nat, s.heap.size ≤ q → A q := fun q h => by rw [← hAe]; exact Or.inr h
  have hS : va_S A s.heap s.heap [] := va_S.rf
  have hl := lv_entry ([.ref h_m, .int p0, .int p1]) (n := 3) (Nat.le_of_ble_eq_true rfl)
  rw [lg_entry_eq]
  generalize (lg_sl ([.ref h_m, .int p0, .int p1]) ++ List.replicate (3 - (lg_sl ([.ref h_m, .int p0, .int p1])).length) Slot.unset).toArray = ls at hl ⊢
  have hl : lv_has ls 3 [(0, .ref h_m), (1, .int p0), (2, .int p1)] := hl
  obtain ⟨QQ, hQQ⟩ : ∃ Z, Z = MQ below (QM D (some (.int r)) A [(h_m, .inr (5, [.int r_0, .int nd, .int sw, .int so, .int lo, .ref h_one, .ref h_oth, .ref h_isb, .int r_1, .int r_2, .int r_3, .int lg, .ref a_log, .int wr, .ref a_seq, .int pe, .ref h_mho, .ref h_mih, .ref a_far])), (h_one, .inl (cI, 24, .inl one)), (h_oth, .inl (cI, 24, .inl oth)), (h_isb, .inl (cZ, 24, .inl isb)), (h_mho, .inl (cI, 10, .inl mho)), (h_mih, .inl (cZ, 10, .inl mih))]) ([.ref h_m, .int p0, .int p1] : List Value).toArray s 0 0 A := ⟨_, rfl⟩
  rw [← hQQ]
  obtain ⟨H, locs, hHe, hLe⟩ : ∃ (H : Heap) (locs : List Loc), H = s.heap ∧ locs = [] := ⟨_, _, rfl, rfl⟩
  have hP : va_P D vwCl [(h_m, .inr (5, [.int th, .int nd, .int sw, .int so, .int lo, .ref h_one, .ref h_oth, .ref h_isb, .int cl, .int ea, .int on, .int lg, .ref a_log, .int wr, .ref a_seq, .int pe, .ref h_mho, .ref h_mih, .ref a_far])), (h_one, .inl (cI, 24, .inl one)), (h_oth, .inl (cI, 24, .inl oth)), (h_isb, .inl (cZ, 24, .inl isb)), (h_mho, .inl (cI, 10, .inl mho)), (h_mih, .inl (cZ, 10, .inl mih))] H := by rw [hHe]; exact hP
  have hS : va_S A s.heap H locs := by rw [hHe, hLe]; exact hS
  have hW0 : ∀ QQ : State → Prop, W p l e (headSpec wsX5_reason rmX5_reason).room s m (([.ref h_m, .int p0, .int p1] : List Value).toArray) below meth c H locs 0 0 QQ (F0 m 0 ls []) → W p l e (headSpec wsX5_reason rmX5_reason).room s m (([.ref h_m, .int p0, .int p1] : List Value).toArray) below meth c s.heap [] 0 0 QQ (F0 m 0 ls []) := by rw [hHe, hLe]; exact fun _ h => h
  refine hW0 _ ?_
  clear hW0
  unfold fX5_reason at h
  refine lv_aload_n hx hb dX5_reason_0 rfl (lv_at hl 0 rfl) ?_
  refine lv_iload_n hx hb dX5_reason_1 rfl (lv_at hl 1 rfl) ?_
  refine lv_iload_n hx hb dX5_reason_2 rfl (lv_at hl 2 rfl) ?_
  obtain ⟨v2, w3, hq1, h⟩ := bd2_e h
  refine zz_mV (As := [.int p0, .int p1]) (wr := [(h_one, .inl (cI, 24, .inl one)), (h_oth, .inl (cI, 24, .inl oth)), (h_isb, .inl (cZ, 24, .inl isb)), (h_mho, .inl (cI, 10, .inl mho)), (h_mih, .inl (cZ, 10, .inl mih))]) (w1 := [(h_m, .inr (5, [.int w3, .int nd, .int sw, .int so, .int lo, .ref h_one, .ref h_oth, .ref h_isb, .int cl, .int ea, .int on, .int lg, .ref a_log, .int wr, .ref a_seq, .int pe, .ref h_mho, .ref h_mih, .ref a_far]))]) (wt' := [(h_m, .inr (5, [.int w3, .int nd, .int sw, .int so, .int lo, .ref h_one, .ref h_oth, .ref h_isb, .int cl, .int ea, .int on, .int lg, .ref a_log, .int wr, .ref a_seq, .int pe, .ref h_mho, .ref h_mih, .ref a_far])), (h_one, .inl (cI, 24, .inl one)), (h_oth, .inl (cI, 24, .inl oth)), (h_isb, .inl (cZ, 24, .inl isb)), (h_mho, .inl (cI, 10, .inl mho)), (h_mih, .inl (cZ, 10, .inl mih))]) (wc := [(h_m, .inr (5, [.int th, .int nd, .int sw, .int so, .int lo, .ref h_one, .ref h_oth, .ref h_isb, .int cl, .int ea, .int on, .int lg, .ref a_log, .int wr, .ref a_seq, .int pe, .ref h_mho, .ref h_mih, .ref a_far]))]) (rv := (some (.int v2))) ⟨hx, hb, hml, hown, hts⟩ (kX5_asks l D cI cZ cL H.size h_m h_one h_oth h_isb a_log a_seq h_mho h_mih a_far th nd sw so lo cl ea on lg wr pe p0 p1 N hq1) (cwV 2 hts gX5_reason_X5_asks rfl rfl rfl (by decide +kernel) ⟨Nat.le_of_ble_eq_true rfl, Nat.le_of_ble_eq_true rfl⟩) hP hD hS hA hKK [0] [1, 2, 3, 4, 5] [5, 0, 1, 2, 3, 4] rfl rfl (by decide) (by decide) rfl (by decide) (by decide) (va_recv hK hP (ci := 5) (q0 := 0) rfl rfl) rfl hl.1 rfl (Nat.le_of_ble_eq_true rfl) dX5_reason_3 ⟨Nat.le_of_ble_eq_true rfl, Nat.le_of_ble_eq_true rfl⟩ (fun H locs hP hD hS hz9 => ?_)
  show W p l e _ s m _ below meth c H locs _ _ QQ (F0 m 6 ls (.int v2 :: []))
  refine lv_if_eq (tgt := 18) hx hb dX5_reason_6 (by decide) (fun c4 => ?_) (fun c4 => ?_)
  · have h := it_t h c4
    refine lv_iconst (v := 0) hx hb dX5_reason_18 (by decide) ?_
    cases h
    rw [hQQ]
    exact W.iret hx hb hr (fun t ht hW => ⟨rfl, by rw [ht]; exact hP, hD, hS.F ht⟩) hS.2.2 dX5_reason_19
  · have h := it_f h c4
    refine lv_aload_n hx hb dX5_reason_9 rfl (lv_at hl 0 rfl) ?_
    refine lv_iload_n hx hb dX5_reason_10 rfl (lv_at hl 1 rfl) ?_
    refine lv_iload_n hx hb dX5_reason_11 rfl (lv_at hl 2 rfl) ?_
    obtain ⟨v6, w7, w8, w9, hq5, h⟩ := bd4_e h
    refine zz_mV (As := [.int p0, .int p1]) (wr := []) (w1 := [(h_m, .inr (5, [.int w3, .int nd, .int sw, .int so, .int lo, .ref h_one, .ref h_oth, .ref h_isb, .int w7, .int w8, .int w9, .int lg, .ref a_log, .int wr, .ref a_seq, .int pe, .ref h_mho, .ref h_mih, .ref a_far])), (h_one, .inl (cI, 24, .inl one)), (h_oth, .inl (cI, 24, .inl oth)), (h_isb, .inl (cZ, 24, .inl isb)), (h_mho, .inl (cI, 10, .inl mho)), (h_mih, .inl (cZ, 10, .inl mih))]) (wt' := [(h_m, .inr (5, [.int w3, .int nd, .int sw, .int so, .int lo, .ref h_one, .ref h_oth, .ref h_isb, .int w7, .int w8, .int w9, .int lg, .ref a_log, .int wr, .ref a_seq, .int pe, .ref h_mho, .ref h_mih, .ref a_far])), (h_one, .inl (cI, 24, .inl one)), (h_oth, .inl (cI, 24, .inl oth)), (h_isb, .inl (cZ, 24, .inl isb)), (h_mho, .inl (cI, 10, .inl mho)), (h_mih, .inl (cZ, 10, .inl mih))]) (wc := [(h_m, .inr (5, [.int w3, .int nd, .int sw, .int so, .int lo, .ref h_one, .ref h_oth, .ref h_isb, .int cl, .int ea, .int on, .int lg, .ref a_log, .int wr, .ref a_seq, .int pe, .ref h_mho, .ref h_mih, .ref a_far])), (h_one, .inl (cI, 24, .inl one)), (h_oth, .inl (cI, 24, .inl oth)), (h_isb, .inl (cZ, 24, .inl isb)), (h_mho, .inl (cI, 10, .inl mho)), (h_mih, .inl (cZ, 10, .inl mih))]) (rv := (some (.int v6))) ⟨hx, hb, hml, hown, hts⟩ (kX5_why l D cI cZ cL H.size h_m a_log a_seq a_far h_one h_oth h_isb h_mho h_mih w3 nd sw so lo cl ea on lg wr pe one oth isb mho mih p0 p1 N hq5) (cwV 2 hts gX5_reason_X5_why rfl rfl rfl (by decide +kernel) ⟨Nat.le_of_ble_eq_true rfl, Nat.le_of_ble_eq_true rfl⟩) hP hD hS hA hKK [0, 1, 2, 3, 4, 5] [] [0, 1, 2, 3, 4, 5] rfl rfl (by decide) (by decide) rfl (by decide) (by decide) (va_recv hK hP (ci := 5) (q0 := 0) rfl rfl) rfl hl.1 rfl (Nat.le_of_ble_eq_true rfl) dX5_reason_12 ⟨Nat.le_of_ble_eq_true rfl, Nat.le_of_ble_eq_true rfl⟩ (fun H locs hP hD hS hz9 => ?_)
    show W p l e _ s m _ below meth c H locs _ _ QQ (F0 m 15 ls (.int v6 :: []))
    refine lv_goto (tgt := 19) hx hb dX5_reason_15 (by decide) ?_
    cases h
    rw [hQQ]
    exact W.iret hx hb hr (fun t ht hW => ⟨rfl, by rw [ht]; exact hP, hD, hS.F ht⟩) hS.2.2 dX5_reason_19

def fX5_takeBack (N : Nat) (th : Int32) (nd : Int32) (sw : Int32) (so : Int32) (lo : Int32) (cl : Int32) (ea : Int32) (on : Int32) (lg : Int32) (wr : Int32) (pe : Int32) (one : Nat → Int32) (oth : Nat → Int32) (isb : Nat → Int32) (log : Nat → Int32) (mho : Nat → Int32) (mih : Nat → Int32) : Option ((Int32) × (Int32) × (Int32) × (Int32) × (Int32) × (Int32)) :=
  jn1 (fun (y1 : Int32) => (if y1 ≤ 0 then gin (lg - 1) 200 (bd1 (fX5_opposite N  (log (lg - 1).toNatClampNeg)) (fun v6 => bd4 (fX5_why N y1 nd sw so lo cl ea on lg wr pe one oth isb mho mih (v6 / 100) (v6 - v6 / 100 * 100)) (fun v9 w10 w11 w12 => (if v9 = 0 then bd3 (fX5_does N y1 nd sw so lo w10 w11 w12 lg wr pe (v6 / 100) (v6 - v6 / 100 * 100)) (fun w15 w16 w17 => some (v9, y1, w15, w16, w17, lg - 1)) else some (v9, y1, w10, w11, w12, lg))))) else some (0, y1, cl, ea, on, lg))) (fun g13_2 => (if lg = 0 then g13_2 1 else g13_2 0))
set_option maxRecDepth 100000 in
theorem inX5_takeBack_X5 : ∀ w ∈ wsX50, w ∈ wsX5_takeBack := by decide +kernel
set_option maxRecDepth 100000 in
theorem lkX5_takeBack_0 : (.fieldLink RX5 124 "SwitchlogModel" "logged" "I" : Cond) ∈ wsX5_takeBack := by decide +kernel
set_option maxRecDepth 100000 in
theorem lkX5_takeBack_1 : (.fieldLink RX5 35 "SwitchlogModel" "thrown" "I" : Cond) ∈ wsX5_takeBack := by decide +kernel
set_option maxRecDepth 100000 in
theorem lkX5_takeBack_2 : (.fieldLink RX5 20 "SwitchlogModel" "log" "[I" : Cond) ∈ wsX5_takeBack := by decide +kernel
abbrev rmX5_takeBack : Room := { frames := 7, cells := 0, slots := 0, locals := 161 }
set_option maxHeartbeats 4000000 in
set_option maxRecDepth 100000 in
theorem kX5_takeBack (l : Launch) (D : va_G) (cI cZ cL : ClassId) (sz0 : Nat) (h_m a_seq a_far h_one h_oth h_isb h_log h_mho h_mih : Nat) (th : Int32) (nd : Int32) (sw : Int32) (so : Int32) (lo : Int32) (cl : Int32) (ea : Int32) (on : Int32) (lg : Int32) (wr : Int32) (pe : Int32) (one : Nat → Int32) (oth : Nat → Int32) (isb : Nat → Int32) (log : Nat → Int32) (mho : Nat → Int32) (mih : Nat → Int32)  (N : Nat) {r : Int32} {r_0 : Int32} {r_1 : Int32} {r_2 : Int32} {r_3 : Int32} {r_4 : Int32} (h : fX5_takeBack N th nd sw so lo cl ea on lg wr pe one oth isb log mho mih  = some (r, r_0, r_1, r_2, r_3, r_4)) : Met l yX5_takeBack wsX5_takeBack rmX5_takeBack (PM D cI cZ cL [.ref h_m] [(h_m, .inr (5, [.int th, .int nd, .int sw, .int so, .int lo, .ref h_one, .ref h_oth, .ref h_isb, .int cl, .int ea, .int on, .int lg, .ref h_log, .int wr, .ref a_seq, .int pe, .ref h_mho, .ref h_mih, .ref a_far])), (h_one, .inl (cI, 24, .inl one)), (h_oth, .inl (cI, 24, .inl oth)), (h_isb, .inl (cZ, 24, .inl isb)), (h_log, .inl (cI, 200, .inl log)), (h_mho, .inl (cI, 10, .inl mho)), (h_mih, .inl (cZ, 10, .inl mih))] sz0) (QM D (some (.int r)) (va_A [(h_m, .inr (5, [.int th, .int nd, .int sw, .int so, .int lo, .ref h_one, .ref h_oth, .ref h_isb, .int cl, .int ea, .int on, .int lg, .ref h_log, .int wr, .ref a_seq, .int pe, .ref h_mho, .ref h_mih, .ref a_far])), (h_one, .inl (cI, 24, .inl one)), (h_oth, .inl (cI, 24, .inl oth)), (h_isb, .inl (cZ, 24, .inl isb)), (h_log, .inl (cI, 200, .inl log)), (h_mho, .inl (cI, 10, .inl mho)), (h_mih, .inl (cZ, 10, .inl mih))] sz0) [(h_m, .inr (5, [.int r_0, .int nd, .int sw, .int so, .int lo, .ref h_one, .ref h_oth, .ref h_isb, .int r_1, .int r_2, .int r_3, .int r_4, .ref h_log, .int wr, .ref a_seq, .int pe, .ref h_mho, .ref h_mih, .ref a_far])), (h_one, .inl (cI, 24, .inl one)), (h_oth, .inl (cI, 24, .inl oth)), (h_isb, .inl (cZ, 24, .inl isb)), (h_log, .inl (cI, 200, .inl log)), (h_mho, .inl (cI, 10, .inl mho)), (h_mih, .inl (cZ, 10, .inl mih))]) 0 0 (va_A [(h_m, .inr (5, [.int th, .int nd, .int sw, .int so, .int lo, .ref h_one, .ref h_oth, .ref h_isb, .int cl, .int ea, .int on, .int lg, .ref h_log, .int wr, .ref a_seq, .int pe, .ref h_mho, .ref h_mih, .ref a_far])), (h_one, .inl (cI, 24, .inl one)), (h_oth, .inl (cI, 24, .inl oth)), (h_isb, .inl (cZ, 24, .inl isb)), (h_log, .inl (cI, 200, .inl log)), (h_mho, .inl (cI, 10, .inl mho)), (h_mih, .inl (cZ, 10, .inl mih))] sz0) := by
  refine Met.ofW (cc := cX5_takeBack) (maxL := 3) (ret := (some .int)) (by decide) rfl ?_
  intro p e s m args below meth c s₁ B hml hv
  obtain ⟨rfl, hsz, hP, hKK, hD0⟩ := hv
  have hK := hKK.1
  have hx := B.exec
  have hb := B.bytes
  have hr := B.returns
  have hts := atoms_spec (ws := wsX5_takeBack) B.pre
  have hown : s.vm.findClass RX5 = some m.cls := findClass_of_methodNamed B.named
  have hlocks := B.notSynchronized
  subst hsz
  have hD := hD0.self (sz := s.heap.size)
  generalize hAe : va_A [(h_m, .inr (5, [.int th, .int nd, .int sw, .int so, .int lo, .ref h_one, .ref h_oth, .ref h_isb, .int cl, .int ea, .int on, .int lg, .ref h_log, .int wr, .ref a_seq, .int pe, .ref h_mho, .ref h_mih, .ref a_far])), (h_one, .inl (cI, 24, .inl one)), (h_oth, .inl (cI, 24, .inl oth)), (h_isb, .inl (cZ, 24, .inl isb)), (h_log, .inl (cI, 200, .inl log)), (h_mho, .inl (cI, 10, .inl mho)), (h_mih, .inl (cZ, 10, .inl mih))] s.heap.size = A at hD ⊢
  have hA : ∀ q : Nat, s.heap.size ≤ q → A q := fun q h => by rw [← hAe]; exact Or.inr h
  have hS : va_S A s.heap s.heap [] := va_S.rf
  have hl := lv_entry ([.ref h_m]) (n := 3) (Nat.le_of_ble_eq_true rfl)
  rw [lg_entry_eq]
  generalize (lg_sl ([.ref h_m]) ++ List.replicate (3 - (lg_sl ([.ref h_m])).length) Slot.unset).toArray = ls at hl ⊢
  have hl : lv_has ls 3 [(0, .ref h_m)] := hl
  obtain ⟨QQ, hQQ⟩ : ∃ Z, Z = MQ below (QM D (some (.int r)) A [(h_m, .inr (5, [.int r_0, .int nd, .int sw, .int so, .int lo, .ref h_one, .ref h_oth, .ref h_isb, .int r_1, .int r_2, .int r_3, .int r_4, .ref h_log, .int wr, .ref a_seq, .int pe, .ref h_mho, .ref h_mih, .ref a_far])), (h_one, .inl (cI, 24, .inl one)), (h_oth, .inl (cI, 24, .inl oth)), (h_isb, .inl (cZ, 24, .inl isb)), (h_log, .inl (cI, 200, .inl log)), (h_mho, .inl (cI, 10, .inl mho)), (h_mih, .inl (cZ, 10, .inl mih))]) ([.ref h_m] : List Value).toArray s 0 0 A := ⟨_, rfl⟩
  rw [← hQQ]
  obtain ⟨H, locs, hHe, hLe⟩ : ∃ (H : Heap) (locs : List Loc), H = s.heap ∧ locs = [] := ⟨_, _, rfl, rfl⟩
  have hP : va_P D vwCl [(h_m, .inr (5, [.int th, .int nd, .int sw, .int so, .int lo, .ref h_one, .ref h_oth, .ref h_isb, .int cl, .int ea, .int on, .int lg, .ref h_log, .int wr, .ref a_seq, .int pe, .ref h_mho, .ref h_mih, .ref a_far])), (h_one, .inl (cI, 24, .inl one)), (h_oth, .inl (cI, 24, .inl oth)), (h_isb, .inl (cZ, 24, .inl isb)), (h_log, .inl (cI, 200, .inl log)), (h_mho, .inl (cI, 10, .inl mho)), (h_mih, .inl (cZ, 10, .inl mih))] H := by rw [hHe]; exact hP
  have hS : va_S A s.heap H locs := by rw [hHe, hLe]; exact hS
  have hW0 : ∀ QQ : State → Prop, W p l e (headSpec wsX5_takeBack rmX5_takeBack).room s m (([.ref h_m] : List Value).toArray) below meth c H locs 0 0 QQ (F0 m 0 ls []) → W p l e (headSpec wsX5_takeBack rmX5_takeBack).room s m (([.ref h_m] : List Value).toArray) below meth c s.heap [] 0 0 QQ (F0 m 0 ls []) := by rw [hHe, hLe]; exact fun _ h => h
  refine hW0 _ ?_
  clear hW0
  unfold fX5_takeBack at h
  refine lv_aload_n hx hb dX5_takeBack_0 rfl (lv_at hl 0 rfl) ?_
  refine lv_aload_n hx hb dX5_takeBack_1 rfl (lv_at hl 0 rfl) ?_
  refine va_get (D := D) (ci := 5) (v := .int lg) (C := RX5) (T := TX5) (N := 19) hx hb hts inX5_takeBack_X5 hown hK hP 0 rfl rfl 11 (by decide) (hts _ lkX5_takeBack_0) (fun _ h9 => h9) rfl dX5_takeBack_2 ?_
  refine jn1_e (fun (y1 : Int32) => ∀ (H : Heap) (locs : List Loc) (ls : Array Slot), va_P D vwCl [(h_m, .inr (5, [.int th, .int nd, .int sw, .int so, .int lo, .ref h_one, .ref h_oth, .ref h_isb, .int cl, .int ea, .int on, .int lg, .ref h_log, .int wr, .ref a_seq, .int pe, .ref h_mho, .ref h_mih, .ref a_far])), (h_one, .inl (cI, 24, .inl one)), (h_oth, .inl (cI, 24, .inl oth)), (h_isb, .inl (cZ, 24, .inl isb)), (h_log, .inl (cI, 200, .inl log)), (h_mho, .inl (cI, 10, .inl mho)), (h_mih, .inl (cZ, 10, .inl mih))] H → va_D A [(h_m, .inr (5, [.int th, .int nd, .int sw, .int so, .int lo, .ref h_one, .ref h_oth, .ref h_isb, .int cl, .int ea, .int on, .int lg, .ref h_log, .int wr, .ref a_seq, .int pe, .ref h_mho, .ref h_mih, .ref a_far])), (h_one, .inl (cI, 24, .inl one)), (h_oth, .inl (cI, 24, .inl oth)), (h_isb, .inl (cZ, 24, .inl isb)), (h_log, .inl (cI, 200, .inl log)), (h_mho, .inl (cI, 10, .inl mho)), (h_mih, .inl (cZ, 10, .inl mih))] → va_S A s.heap H locs → lv_has ls 3 [(0, .ref h_m)] → W p l e (headSpec wsX5_takeBack rmX5_takeBack).room s m (([.ref h_m] : List Value).toArray) below meth c H locs 0 0 QQ (F0 m 13 ls [.int y1, .ref h_m])) h (fun y1 h H locs ls hP hD hS hl => ?_) (fun g13_2 hg13_3 h => ?_)
  · refine va_put (D := D) (ci := 5) (v := .int y1) (ty := .int) (C := RX5) (T := TX5) (N := 19) hx hb hts inX5_takeBack_X5 tyX5 tyX5_ok nmX5 hown hK hP hD hS 0 rfl rfl 0 (by decide) (hts _ lkX5_takeBack_1) (fun _ h9 => h9) rfl (by decide +kernel) rfl rfl (Nat.le_of_ble_eq_true rfl) dX5_takeBack_13 (fun H locs hP hD hS => ?_)
    have hP : va_P D vwCl [(h_m, .inr (5, [.int y1, .int nd, .int sw, .int so, .int lo, .ref h_one, .ref h_oth, .ref h_isb, .int cl, .int ea, .int on, .int lg, .ref h_log, .int wr, .ref a_seq, .int pe, .ref h_mho, .ref h_mih, .ref a_far])), (h_one, .inl (cI, 24, .inl one)), (h_oth, .inl (cI, 24, .inl oth)), (h_isb, .inl (cZ, 24, .inl isb)), (h_log, .inl (cI, 200, .inl log)), (h_mho, .inl (cI, 10, .inl mho)), (h_mih, .inl (cZ, 10, .inl mih))] H := hP
    have hD : va_D A [(h_m, .inr (5, [.int y1, .int nd, .int sw, .int so, .int lo, .ref h_one, .ref h_oth, .ref h_isb, .int cl, .int ea, .int on, .int lg, .ref h_log, .int wr, .ref a_seq, .int pe, .ref h_mho, .ref h_mih, .ref a_far])), (h_one, .inl (cI, 24, .inl one)), (h_oth, .inl (cI, 24, .inl oth)), (h_isb, .inl (cZ, 24, .inl isb)), (h_log, .inl (cI, 200, .inl log)), (h_mho, .inl (cI, 10, .inl mho)), (h_mih, .inl (cZ, 10, .inl mih))] := hD
    refine lv_aload_n hx hb dX5_takeBack_16 rfl (lv_at hl 0 rfl) ?_
    refine va_get (D := D) (ci := 5) (v := .int y1) (C := RX5) (T := TX5) (N := 19) hx hb hts inX5_takeBack_X5 hown hK hP 0 rfl rfl 0 (by decide) (hts _ lkX5_takeBack_1) (fun _ h9 => h9) rfl dX5_takeBack_17 ?_
    refine lv_if_le (tgt := 25) hx hb dX5_takeBack_20 (by decide) (fun c4 => ?_) (fun c4 => ?_)
    · have h := it_t h c4
      refine lv_aload_n hx hb dX5_takeBack_25 rfl (lv_at hl 0 rfl) ?_
      refine va_get (D := D) (ci := 5) (v := .ref h_log) (C := RX5) (T := TX5) (N := 19) hx hb hts inX5_takeBack_X5 hown hK hP 0 rfl rfl 12 (by decide) (hts _ lkX5_takeBack_2) (fun _ h9 => h9) rfl dX5_takeBack_26 ?_
      refine lv_aload_n hx hb dX5_takeBack_29 rfl (lv_at hl 0 rfl) ?_
      refine va_get (D := D) (ci := 5) (v := .int lg) (C := RX5) (T := TX5) (N := 19) hx hb hts inX5_takeBack_X5 hown hK hP 0 rfl rfl 11 (by decide) (hts _ lkX5_takeBack_0) (fun _ h9 => h9) rfl dX5_takeBack_30 ?_
      refine lv_iconst (v := 1) hx hb dX5_takeBack_33 (by decide) ?_
      refine lv_isub hx hb dX5_takeBack_34 ?_
      obtain ⟨hi5, h⟩ := gin_e h
      refine va_iald hx hb hK hP 4 0 rfl rfl hi5 dX5_takeBack_35 ?_
      obtain ⟨v6, hq7, h⟩ := bd1_e h
      refine zz_cS (As := [.int (log (lg - 1).toNatClampNeg)]) ⟨hx, hb, hml, hown, hts⟩ (kX5_opposite l D cI cZ cL (log (lg - 1).toNatClampNeg) N hq7) (va_cwS 1 hts gX5_takeBack_X5_opposite rfl rfl rfl (by decide +kernel) ⟨Nat.le_of_ble_eq_true rfl, Nat.le_of_ble_eq_true rfl⟩) (hP.sub (ws' := []) [] rfl) hKK rfl hl.1 rfl (Nat.le_of_ble_eq_true rfl) dX5_takeBack_36 ⟨Nat.le_of_ble_eq_true rfl, Nat.le_of_ble_eq_true rfl⟩ ?_
      refine lv_istore_n (lv' := [(1, .int v6), (0, .ref h_m)]) hx hb dX5_takeBack_39 rfl hl (by decide) rfl (fun ls hl => ?_)
      refine lv_aload_n hx hb dX5_takeBack_40 rfl (lv_at hl 1 rfl) ?_
      refine lv_iload_n hx hb dX5_takeBack_41 rfl (lv_at hl 0 rfl) ?_
      refine lv_bipush (v := 100) hx hb dX5_takeBack_42 (by decide) ?_
      refine lv_idiv hx hb dX5_takeBack_44 (by decide) ?_
      refine lv_iload_n hx hb dX5_takeBack_45 rfl (lv_at hl 0 rfl) ?_
      refine lv_bipush (v := 100) hx hb dX5_takeBack_46 (by decide) ?_
      refine lv_irem hx hb dX5_takeBack_48 (by decide) ?_
      obtain ⟨v9, w10, w11, w12, hq8, h⟩ := bd4_e h
      refine zz_mV (As := [.int (v6 / 100), .int (v6 - v6 / 100 * 100)]) (wr := [(h_log, .inl (cI, 200, .inl log))]) (w1 := [(h_m, .inr (5, [.int y1, .int nd, .int sw, .int so, .int lo, .ref h_one, .ref h_oth, .ref h_isb, .int w10, .int w11, .int w12, .int lg, .ref h_log, .int wr, .ref a_seq, .int pe, .ref h_mho, .ref h_mih, .ref a_far])), (h_one, .inl (cI, 24, .inl one)), (h_oth, .inl (cI, 24, .inl oth)), (h_isb, .inl (cZ, 24, .inl isb)), (h_mho, .inl (cI, 10, .inl mho)), (h_mih, .inl (cZ, 10, .inl mih))]) (wt' := [(h_m, .inr (5, [.int y1, .int nd, .int sw, .int so, .int lo, .ref h_one, .ref h_oth, .ref h_isb, .int w10, .int w11, .int w12, .int lg, .ref h_log, .int wr, .ref a_seq, .int pe, .ref h_mho, .ref h_mih, .ref a_far])), (h_one, .inl (cI, 24, .inl one)), (h_oth, .inl (cI, 24, .inl oth)), (h_isb, .inl (cZ, 24, .inl isb)), (h_log, .inl (cI, 200, .inl log)), (h_mho, .inl (cI, 10, .inl mho)), (h_mih, .inl (cZ, 10, .inl mih))]) (wc := [(h_m, .inr (5, [.int y1, .int nd, .int sw, .int so, .int lo, .ref h_one, .ref h_oth, .ref h_isb, .int cl, .int ea, .int on, .int lg, .ref h_log, .int wr, .ref a_seq, .int pe, .ref h_mho, .ref h_mih, .ref a_far])), (h_one, .inl (cI, 24, .inl one)), (h_oth, .inl (cI, 24, .inl oth)), (h_isb, .inl (cZ, 24, .inl isb)), (h_mho, .inl (cI, 10, .inl mho)), (h_mih, .inl (cZ, 10, .inl mih))]) (rv := (some (.int v9))) ⟨hx, hb, hml, hown, hts⟩ (kX5_why l D cI cZ cL H.size h_m h_log a_seq a_far h_one h_oth h_isb h_mho h_mih y1 nd sw so lo cl ea on lg wr pe one oth isb mho mih (v6 / 100) (v6 - v6 / 100 * 100) N hq8) (cwV 2 hts gX5_takeBack_X5_why rfl rfl rfl (by decide +kernel) ⟨Nat.le_of_ble_eq_true rfl, Nat.le_of_ble_eq_true rfl⟩) hP hD hS hA hKK [0, 1, 2, 3, 5, 6] [4] [1, 2, 3, 4, 0, 5, 6] rfl rfl (by decide) (by decide) rfl (by decide) (by decide) (va_recv hK hP (ci := 5) (q0 := 0) rfl rfl) rfl hl.1 rfl (Nat.le_of_ble_eq_true rfl) dX5_takeBack_49 ⟨Nat.le_of_ble_eq_true rfl, Nat.le_of_ble_eq_true rfl⟩ (fun H locs hP hD hS hz9 => ?_)
      show W p l e _ s m _ below meth c H locs _ _ QQ (F0 m 52 ls (.int v9 :: []))
      refine lv_istore_n (lv' := [(2, .int v9), (1, .int v6), (0, .ref h_m)]) hx hb dX5_takeBack_52 rfl hl (by decide) rfl (fun ls hl => ?_)
      refine lv_iload_n hx hb dX5_takeBack_53 rfl (lv_at hl 0 rfl) ?_
      refine lv_if_ne (tgt := 79) hx hb dX5_takeBack_54 (by decide) (fun c13 => ?_) (fun c13 => ?_)
      · have h := it_f h c13
        refine lv_iload_n hx hb dX5_takeBack_79 rfl (lv_at hl 0 rfl) ?_
        cases h
        rw [hQQ]
        exact W.iret hx hb hr (fun t ht hW => ⟨rfl, by rw [ht]; exact hP, hD, hS.F ht⟩) hS.2.2 dX5_takeBack_80
      · have h := it_t h c13
        refine lv_aload_n hx hb dX5_takeBack_57 rfl (lv_at hl 2 rfl) ?_
        refine lv_iload_n hx hb dX5_takeBack_58 rfl (lv_at hl 1 rfl) ?_
        refine lv_bipush (v := 100) hx hb dX5_takeBack_59 (by decide) ?_
        refine lv_idiv hx hb dX5_takeBack_61 (by decide) ?_
        refine lv_iload_n hx hb dX5_takeBack_62 rfl (lv_at hl 1 rfl) ?_
        refine lv_bipush (v := 100) hx hb dX5_takeBack_63 (by decide) ?_
        refine lv_irem hx hb dX5_takeBack_65 (by decide) ?_
        obtain ⟨w15, w16, w17, hq14, h⟩ := bd3_e h
        refine zz_mV (As := [.int (v6 / 100), .int (v6 - v6 / 100 * 100)]) (wr := [(h_one, .inl (cI, 24, .inl one)), (h_oth, .inl (cI, 24, .inl oth)), (h_isb, .inl (cZ, 24, .inl isb)), (h_log, .inl (cI, 200, .inl log)), (h_mho, .inl (cI, 10, .inl mho)), (h_mih, .inl (cZ, 10, .inl mih))]) (w1 := [(h_m, .inr (5, [.int y1, .int nd, .int sw, .int so, .int lo, .ref h_one, .ref h_oth, .ref h_isb, .int w15, .int w16, .int w17, .int lg, .ref h_log, .int wr, .ref a_seq, .int pe, .ref h_mho, .ref h_mih, .ref a_far]))]) (wt' := [(h_m, .inr (5, [.int y1, .int nd, .int sw, .int so, .int lo, .ref h_one, .ref h_oth, .ref h_isb, .int w15, .int w16, .int w17, .int lg, .ref h_log, .int wr, .ref a_seq, .int pe, .ref h_mho, .ref h_mih, .ref a_far])), (h_one, .inl (cI, 24, .inl one)), (h_oth, .inl (cI, 24, .inl oth)), (h_isb, .inl (cZ, 24, .inl isb)), (h_log, .inl (cI, 200, .inl log)), (h_mho, .inl (cI, 10, .inl mho)), (h_mih, .inl (cZ, 10, .inl mih))]) (wc := [(h_m, .inr (5, [.int y1, .int nd, .int sw, .int so, .int lo, .ref h_one, .ref h_oth, .ref h_isb, .int w10, .int w11, .int w12, .int lg, .ref h_log, .int wr, .ref a_seq, .int pe, .ref h_mho, .ref h_mih, .ref a_far]))]) (rv := none) ⟨hx, hb, hml, hown, hts⟩ (kX5_does l D cI cZ cL H.size h_m h_one h_oth h_isb h_log a_seq h_mho h_mih a_far y1 nd sw so lo w10 w11 w12 lg wr pe (v6 / 100) (v6 - v6 / 100 * 100) N hq14) (cwV 2 hts gX5_takeBack_X5_does rfl rfl rfl (by decide +kernel) ⟨Nat.le_of_ble_eq_true rfl, Nat.le_of_ble_eq_true rfl⟩) hP hD hS hA hKK [0] [1, 2, 3, 4, 5, 6] [6, 0, 1, 2, 3, 4, 5] rfl rfl (by decide) (by decide) rfl (by decide) (by decide) (va_recv hK hP (ci := 5) (q0 := 0) rfl rfl) rfl hl.1 rfl (Nat.le_of_ble_eq_true rfl) dX5_takeBack_66 ⟨Nat.le_of_ble_eq_true rfl, Nat.le_of_ble_eq_true rfl⟩ (fun H locs hP hD hS hz9 => ?_)
        show W p l e _ s m _ below meth c H locs _ _ QQ (F0 m 69 ls [])
        refine lv_aload_n hx hb dX5_takeBack_69 rfl (lv_at hl 2 rfl) ?_
        refine lv_dup hx hb dX5_takeBack_70 rfl ?_
        refine va_get (D := D) (ci := 5) (v := .int lg) (C := RX5) (T := TX5) (N := 19) hx hb hts inX5_takeBack_X5 hown hK hP 0 rfl rfl 11 (by decide) (hts _ lkX5_takeBack_0) (fun _ h9 => h9) rfl dX5_takeBack_71 ?_
        refine lv_iconst (v := 1) hx hb dX5_takeBack_74 (by decide) ?_
        refine lv_isub hx hb dX5_takeBack_75 ?_
        refine va_put (D := D) (ci := 5) (v := .int (lg - 1)) (ty := .int) (C := RX5) (T := TX5) (N := 19) hx hb hts inX5_takeBack_X5 tyX5 tyX5_ok nmX5 hown hK hP hD hS 0 rfl rfl 11 (by decide) (hts _ lkX5_takeBack_0) (fun _ h9 => h9) rfl (by decide +kernel) rfl rfl (Nat.le_of_ble_eq_true rfl) dX5_takeBack_76 (fun H locs hP hD hS => ?_)
        have hP : va_P D vwCl [(h_m, .inr (5, [.int y1, .int nd, .int sw, .int so, .int lo, .ref h_one, .ref h_oth, .ref h_isb, .int w15, .int w16, .int w17, .int (lg - 1), .ref h_log, .int wr, .ref a_seq, .int pe, .ref h_mho, .ref h_mih, .ref a_far])), (h_one, .inl (cI, 24, .inl one)), (h_oth, .inl (cI, 24, .inl oth)), (h_isb, .inl (cZ, 24, .inl isb)), (h_log, .inl (cI, 200, .inl log)), (h_mho, .inl (cI, 10, .inl mho)), (h_mih, .inl (cZ, 10, .inl mih))] H := hP
        have hD : va_D A [(h_m, .inr (5, [.int y1, .int nd, .int sw, .int so, .int lo, .ref h_one, .ref h_oth, .ref h_isb, .int w15, .int w16, .int w17, .int (lg - 1), .ref h_log, .int wr, .ref a_seq, .int pe, .ref h_mho, .ref h_mih, .ref a_far])), (h_one, .inl (cI, 24, .inl one)), (h_oth, .inl (cI, 24, .inl oth)), (h_isb, .inl (cZ, 24, .inl isb)), (h_log, .inl (cI, 200, .inl log)), (h_mho, .inl (cI, 10, .inl mho)), (h_mih, .inl (cZ, 10, .inl mih))] := hD
        refine lv_iload_n hx hb dX5_takeBack_79 rfl (lv_at hl 0 rfl) ?_
        cases h
        rw [hQQ]
        exact W.iret hx hb hr (fun t ht hW => ⟨rfl, by rw [ht]; exact hP, hD, hS.F ht⟩) hS.2.2 dX5_takeBack_80
    · have h := it_f h c4
      refine lv_iconst (v := 0) hx hb dX5_takeBack_23 (by decide) ?_
      cases h
      rw [hQQ]
      exact W.iret hx hb hr (fun t ht hW => ⟨rfl, by rw [ht]; exact hP, hD, hS.F ht⟩) hS.2.2 dX5_takeBack_24
  · refine lv_if_ne (tgt := 12) hx hb dX5_takeBack_5 (by decide) (fun c18 => ?_) (fun c18 => ?_)
    · have h := it_f h c18
      refine lv_iconst (v := 0) hx hb dX5_takeBack_12 (by decide) ?_
      exact hg13_3 0 h H locs ls hP hD hS (lv_sub hl [0] rfl)
    · have h := it_t h c18
      refine lv_iconst (v := 1) hx hb dX5_takeBack_8 (by decide) ?_
      refine lv_goto (tgt := 13) hx hb dX5_takeBack_9 (by decide) ?_
      exact hg13_3 1 h H locs ls hP hD hS (lv_sub hl [0] rfl)

def fX5_log (N : Nat) (th : Int32) (nd : Int32) (sw : Int32) (so : Int32) (lo : Int32) (cl : Int32) (ea : Int32) (on : Int32) (lg : Int32) (wr : Int32) (pe : Int32) : Option ((Int32) × (Int32)) :=
  some (lg, 0)
set_option maxRecDepth 100000 in
theorem inX5_log_X5 : ∀ w ∈ wsX50, w ∈ wsX5_log := by decide +kernel
set_option maxRecDepth 100000 in
theorem lkX5_log_0 : (.fieldLink RX5 35 "SwitchlogModel" "thrown" "I" : Cond) ∈ wsX5_log := by decide +kernel
set_option maxRecDepth 100000 in
theorem lkX5_log_1 : (.fieldLink RX5 124 "SwitchlogModel" "logged" "I" : Cond) ∈ wsX5_log := by decide +kernel
abbrev rmX5_log : Room := { frames := 0, cells := 0, slots := 0, locals := 0 }
set_option maxHeartbeats 4000000 in
set_option maxRecDepth 100000 in
theorem kX5_log (l : Launch) (D : va_G) (cI cZ cL : ClassId) (sz0 : Nat) (h_m a_one a_oth a_isb a_log a_seq a_mho a_mih a_far : Nat) (th : Int32) (nd : Int32) (sw : Int32) (so : Int32) (lo : Int32) (cl : Int32) (ea : Int32) (on : Int32) (lg : Int32) (wr : Int32) (pe : Int32)  (N : Nat) {r : Int32} {r_0 : Int32} (h : fX5_log N th nd sw so lo cl ea on lg wr pe  = some (r, r_0)) : Met l yX5_log wsX5_log rmX5_log (PM D cI cZ cL [.ref h_m] [(h_m, .inr (5, [.int th, .int nd, .int sw, .int so, .int lo, .ref a_one, .ref a_oth, .ref a_isb, .int cl, .int ea, .int on, .int lg, .ref a_log, .int wr, .ref a_seq, .int pe, .ref a_mho, .ref a_mih, .ref a_far]))] sz0) (QM D (some (.int r)) (va_A [(h_m, .inr (5, [.int th, .int nd, .int sw, .int so, .int lo, .ref a_one, .ref a_oth, .ref a_isb, .int cl, .int ea, .int on, .int lg, .ref a_log, .int wr, .ref a_seq, .int pe, .ref a_mho, .ref a_mih, .ref a_far]))] sz0) [(h_m, .inr (5, [.int r_0, .int nd, .int sw, .int so, .int lo, .ref a_one, .ref a_oth, .ref a_isb, .int cl, .int ea, .int on, .int lg, .ref a_log, .int wr, .ref a_seq, .int pe, .ref a_mho, .ref a_mih, .ref a_far]))]) 0 0 (va_A [(h_m, .inr (5, [.int th, .int nd, .int sw, .int so, .int lo, .ref a_one, .ref a_oth, .ref a_isb, .int cl, .int ea, .int on, .int lg, .ref a_log, .int wr, .ref a_seq, .int pe, .ref a_mho, .ref a_mih, .ref a_far]))] sz0) := by
  refine Met.ofW (cc := cX5_log) (maxL := 1) (ret := (some .int)) (by decide) rfl ?_
  intro p e s m args below meth c s₁ B hml hv
  obtain ⟨rfl, hsz, hP, hKK, hD0⟩ := hv
  have hK := hKK.1
  have hx := B.exec
  have hb := B.bytes
  have hr := B.returns
  have hts := atoms_spec (ws := wsX5_log) B.pre
  have hown : s.vm.findClass RX5 = some m.cls := findClass_of_methodNamed B.named
  have hlocks := B.notSynchronized
  subst hsz
  have hD := hD0.self (sz := s.heap.size)
  generalize hAe : va_A [(h_m, .inr (5, [.int th, .int nd, .int sw, .int so, .int lo, .ref a_one, .ref a_oth, .ref a_isb, .int cl, .int ea, .int on, .int lg, .ref a_log, .int wr, .ref a_seq, .int pe, .ref a_mho, .ref a_mih, .ref a_far]))] s.heap.size = A at hD ⊢
  have hA : ∀ q : Nat, s.heap.size ≤ q → A q := fun q h => by rw [← hAe]; exact Or.inr h
  have hS : va_S A s.heap s.heap [] := va_S.rf
  have hl := lv_entry ([.ref h_m]) (n := 1) (Nat.le_of_ble_eq_true rfl)
  rw [lg_entry_eq]
  generalize (lg_sl ([.ref h_m]) ++ List.replicate (1 - (lg_sl ([.ref h_m])).length) Slot.unset).toArray = ls at hl ⊢
  have hl : lv_has ls 1 [(0, .ref h_m)] := hl
  obtain ⟨QQ, hQQ⟩ : ∃ Z, Z = MQ below (QM D (some (.int r)) A [(h_m, .inr (5, [.int r_0, .int nd, .int sw, .int so, .int lo, .ref a_one, .ref a_oth, .ref a_isb, .int cl, .int ea, .int on, .int lg, .ref a_log, .int wr, .ref a_seq, .int pe, .ref a_mho, .ref a_mih, .ref a_far]))]) ([.ref h_m] : List Value).toArray s 0 0 A := ⟨_, rfl⟩
  rw [← hQQ]
  obtain ⟨H, locs, hHe, hLe⟩ : ∃ (H : Heap) (locs : List Loc), H = s.heap ∧ locs = [] := ⟨_, _, rfl, rfl⟩
  have hP : va_P D vwCl [(h_m, .inr (5, [.int th, .int nd, .int sw, .int so, .int lo, .ref a_one, .ref a_oth, .ref a_isb, .int cl, .int ea, .int on, .int lg, .ref a_log, .int wr, .ref a_seq, .int pe, .ref a_mho, .ref a_mih, .ref a_far]))] H := by rw [hHe]; exact hP
  have hS : va_S A s.heap H locs := by rw [hHe, hLe]; exact hS
  have hW0 : ∀ QQ : State → Prop, W p l e (headSpec wsX5_log rmX5_log).room s m (([.ref h_m] : List Value).toArray) below meth c H locs 0 0 QQ (F0 m 0 ls []) → W p l e (headSpec wsX5_log rmX5_log).room s m (([.ref h_m] : List Value).toArray) below meth c s.heap [] 0 0 QQ (F0 m 0 ls []) := by rw [hHe, hLe]; exact fun _ h => h
  refine hW0 _ ?_
  clear hW0
  unfold fX5_log at h
  refine lv_aload_n hx hb dX5_log_0 rfl (lv_at hl 0 rfl) ?_
  refine lv_iconst (v := 0) hx hb dX5_log_1 (by decide) ?_
  refine va_put (D := D) (ci := 5) (v := .int 0) (ty := .int) (C := RX5) (T := TX5) (N := 19) hx hb hts inX5_log_X5 tyX5 tyX5_ok nmX5 hown hK hP hD hS 0 rfl rfl 0 (by decide) (hts _ lkX5_log_0) (fun _ h9 => h9) rfl (by decide +kernel) rfl rfl (Nat.le_of_ble_eq_true rfl) dX5_log_2 (fun H locs hP hD hS => ?_)
  have hP : va_P D vwCl [(h_m, .inr (5, [.int 0, .int nd, .int sw, .int so, .int lo, .ref a_one, .ref a_oth, .ref a_isb, .int cl, .int ea, .int on, .int lg, .ref a_log, .int wr, .ref a_seq, .int pe, .ref a_mho, .ref a_mih, .ref a_far]))] H := hP
  have hD : va_D A [(h_m, .inr (5, [.int 0, .int nd, .int sw, .int so, .int lo, .ref a_one, .ref a_oth, .ref a_isb, .int cl, .int ea, .int on, .int lg, .ref a_log, .int wr, .ref a_seq, .int pe, .ref a_mho, .ref a_mih, .ref a_far]))] := hD
  refine lv_aload_n hx hb dX5_log_5 rfl (lv_at hl 0 rfl) ?_
  refine va_get (D := D) (ci := 5) (v := .int lg) (C := RX5) (T := TX5) (N := 19) hx hb hts inX5_log_X5 hown hK hP 0 rfl rfl 11 (by decide) (hts _ lkX5_log_1) (fun _ h9 => h9) rfl dX5_log_6 ?_
  cases h
  rw [hQQ]
  exact W.iret hx hb hr (fun t ht hW => ⟨rfl, by rw [ht]; exact hP, hD, hS.F ht⟩) hS.2.2 dX5_log_9

def fX5_nodes (N : Nat) (th : Int32) (nd : Int32) (sw : Int32) (so : Int32) (lo : Int32) (cl : Int32) (ea : Int32) (on : Int32) (lg : Int32) (wr : Int32) (pe : Int32) : Option ((Int32) × (Int32)) :=
  some (nd, 0)
set_option maxRecDepth 100000 in
theorem inX5_nodes_X5 : ∀ w ∈ wsX50, w ∈ wsX5_nodes := by decide +kernel
set_option maxRecDepth 100000 in
theorem lkX5_nodes_0 : (.fieldLink RX5 35 "SwitchlogModel" "thrown" "I" : Cond) ∈ wsX5_nodes := by decide +kernel
set_option maxRecDepth 100000 in
theorem lkX5_nodes_1 : (.fieldLink RX5 39 "SwitchlogModel" "nodes" "I" : Cond) ∈ wsX5_nodes := by decide +kernel
abbrev rmX5_nodes : Room := { frames := 0, cells := 0, slots := 0, locals := 0 }
set_option maxHeartbeats 4000000 in
set_option maxRecDepth 100000 in
theorem kX5_nodes (l : Launch) (D : va_G) (cI cZ cL : ClassId) (sz0 : Nat) (h_m a_one a_oth a_isb a_log a_seq a_mho a_mih a_far : Nat) (th : Int32) (nd : Int32) (sw : Int32) (so : Int32) (lo : Int32) (cl : Int32) (ea : Int32) (on : Int32) (lg : Int32) (wr : Int32) (pe : Int32)  (N : Nat) {r : Int32} {r_0 : Int32} (h : fX5_nodes N th nd sw so lo cl ea on lg wr pe  = some (r, r_0)) : Met l yX5_nodes wsX5_nodes rmX5_nodes (PM D cI cZ cL [.ref h_m] [(h_m, .inr (5, [.int th, .int nd, .int sw, .int so, .int lo, .ref a_one, .ref a_oth, .ref a_isb, .int cl, .int ea, .int on, .int lg, .ref a_log, .int wr, .ref a_seq, .int pe, .ref a_mho, .ref a_mih, .ref a_far]))] sz0) (QM D (some (.int r)) (va_A [(h_m, .inr (5, [.int th, .int nd, .int sw, .int so, .int lo, .ref a_one, .ref a_oth, .ref a_isb, .int cl, .int ea, .int on, .int lg, .ref a_log, .int wr, .ref a_seq, .int pe, .ref a_mho, .ref a_mih, .ref a_far]))] sz0) [(h_m, .inr (5, [.int r_0, .int nd, .int sw, .int so, .int lo, .ref a_one, .ref a_oth, .ref a_isb, .int cl, .int ea, .int on, .int lg, .ref a_log, .int wr, .ref a_seq, .int pe, .ref a_mho, .ref a_mih, .ref a_far]))]) 0 0 (va_A [(h_m, .inr (5, [.int th, .int nd, .int sw, .int so, .int lo, .ref a_one, .ref a_oth, .ref a_isb, .int cl, .int ea, .int on, .int lg, .ref a_log, .int wr, .ref a_seq, .int pe, .ref a_mho, .ref a_mih, .ref a_far]))] sz0) := by
  refine Met.ofW (cc := cX5_nodes) (maxL := 1) (ret := (some .int)) (by decide) rfl ?_
  intro p e s m args below meth c s₁ B hml hv
  obtain ⟨rfl, hsz, hP, hKK, hD0⟩ := hv
  have hK := hKK.1
  have hx := B.exec
  have hb := B.bytes
  have hr := B.returns
  have hts := atoms_spec (ws := wsX5_nodes) B.pre
  have hown : s.vm.findClass RX5 = some m.cls := findClass_of_methodNamed B.named
  have hlocks := B.notSynchronized
  subst hsz
  have hD := hD0.self (sz := s.heap.size)
  generalize hAe : va_A [(h_m, .inr (5, [.int th, .int nd, .int sw, .int so, .int lo, .ref a_one, .ref a_oth, .ref a_isb, .int cl, .int ea, .int on, .int lg, .ref a_log, .int wr, .ref a_seq, .int pe, .ref a_mho, .ref a_mih, .ref a_far]))] s.heap.size = A at hD ⊢
  have hA : ∀ q : Nat, s.heap.size ≤ q → A q := fun q h => by rw [← hAe]; exact Or.inr h
  have hS : va_S A s.heap s.heap [] := va_S.rf
  have hl := lv_entry ([.ref h_m]) (n := 1) (Nat.le_of_ble_eq_true rfl)
  rw [lg_entry_eq]
  generalize (lg_sl ([.ref h_m]) ++ List.replicate (1 - (lg_sl ([.ref h_m])).length) Slot.unset).toArray = ls at hl ⊢
  have hl : lv_has ls 1 [(0, .ref h_m)] := hl
  obtain ⟨QQ, hQQ⟩ : ∃ Z, Z = MQ below (QM D (some (.int r)) A [(h_m, .inr (5, [.int r_0, .int nd, .int sw, .int so, .int lo, .ref a_one, .ref a_oth, .ref a_isb, .int cl, .int ea, .int on, .int lg, .ref a_log, .int wr, .ref a_seq, .int pe, .ref a_mho, .ref a_mih, .ref a_far]))]) ([.ref h_m] : List Value).toArray s 0 0 A := ⟨_, rfl⟩
  rw [← hQQ]
  obtain ⟨H, locs, hHe, hLe⟩ : ∃ (H : Heap) (locs : List Loc), H = s.heap ∧ locs = [] := ⟨_, _, rfl, rfl⟩
  have hP : va_P D vwCl [(h_m, .inr (5, [.int th, .int nd, .int sw, .int so, .int lo, .ref a_one, .ref a_oth, .ref a_isb, .int cl, .int ea, .int on, .int lg, .ref a_log, .int wr, .ref a_seq, .int pe, .ref a_mho, .ref a_mih, .ref a_far]))] H := by rw [hHe]; exact hP
  have hS : va_S A s.heap H locs := by rw [hHe, hLe]; exact hS
  have hW0 : ∀ QQ : State → Prop, W p l e (headSpec wsX5_nodes rmX5_nodes).room s m (([.ref h_m] : List Value).toArray) below meth c H locs 0 0 QQ (F0 m 0 ls []) → W p l e (headSpec wsX5_nodes rmX5_nodes).room s m (([.ref h_m] : List Value).toArray) below meth c s.heap [] 0 0 QQ (F0 m 0 ls []) := by rw [hHe, hLe]; exact fun _ h => h
  refine hW0 _ ?_
  clear hW0
  unfold fX5_nodes at h
  refine lv_aload_n hx hb dX5_nodes_0 rfl (lv_at hl 0 rfl) ?_
  refine lv_iconst (v := 0) hx hb dX5_nodes_1 (by decide) ?_
  refine va_put (D := D) (ci := 5) (v := .int 0) (ty := .int) (C := RX5) (T := TX5) (N := 19) hx hb hts inX5_nodes_X5 tyX5 tyX5_ok nmX5 hown hK hP hD hS 0 rfl rfl 0 (by decide) (hts _ lkX5_nodes_0) (fun _ h9 => h9) rfl (by decide +kernel) rfl rfl (Nat.le_of_ble_eq_true rfl) dX5_nodes_2 (fun H locs hP hD hS => ?_)
  have hP : va_P D vwCl [(h_m, .inr (5, [.int 0, .int nd, .int sw, .int so, .int lo, .ref a_one, .ref a_oth, .ref a_isb, .int cl, .int ea, .int on, .int lg, .ref a_log, .int wr, .ref a_seq, .int pe, .ref a_mho, .ref a_mih, .ref a_far]))] H := hP
  have hD : va_D A [(h_m, .inr (5, [.int 0, .int nd, .int sw, .int so, .int lo, .ref a_one, .ref a_oth, .ref a_isb, .int cl, .int ea, .int on, .int lg, .ref a_log, .int wr, .ref a_seq, .int pe, .ref a_mho, .ref a_mih, .ref a_far]))] := hD
  refine lv_aload_n hx hb dX5_nodes_5 rfl (lv_at hl 0 rfl) ?_
  refine va_get (D := D) (ci := 5) (v := .int nd) (C := RX5) (T := TX5) (N := 19) hx hb hts inX5_nodes_X5 hown hK hP 0 rfl rfl 1 (by decide) (hts _ lkX5_nodes_1) (fun _ h9 => h9) rfl dX5_nodes_6 ?_
  cases h
  rw [hQQ]
  exact W.iret hx hb hr (fun t ht hW => ⟨rfl, by rw [ht]; exact hP, hD, hS.F ht⟩) hS.2.2 dX5_nodes_9

def fX5_switches (N : Nat) (th : Int32) (nd : Int32) (sw : Int32) (so : Int32) (lo : Int32) (cl : Int32) (ea : Int32) (on : Int32) (lg : Int32) (wr : Int32) (pe : Int32) : Option ((Int32) × (Int32)) :=
  some (sw, 0)
set_option maxRecDepth 100000 in
theorem inX5_switches_X5 : ∀ w ∈ wsX50, w ∈ wsX5_switches := by decide +kernel
set_option maxRecDepth 100000 in
theorem lkX5_switches_0 : (.fieldLink RX5 35 "SwitchlogModel" "thrown" "I" : Cond) ∈ wsX5_switches := by decide +kernel
set_option maxRecDepth 100000 in
theorem lkX5_switches_1 : (.fieldLink RX5 46 "SwitchlogModel" "switches" "I" : Cond) ∈ wsX5_switches := by decide +kernel
abbrev rmX5_switches : Room := { frames := 0, cells := 0, slots := 0, locals := 0 }
set_option maxHeartbeats 4000000 in
set_option maxRecDepth 100000 in
theorem kX5_switches (l : Launch) (D : va_G) (cI cZ cL : ClassId) (sz0 : Nat) (h_m a_one a_oth a_isb a_log a_seq a_mho a_mih a_far : Nat) (th : Int32) (nd : Int32) (sw : Int32) (so : Int32) (lo : Int32) (cl : Int32) (ea : Int32) (on : Int32) (lg : Int32) (wr : Int32) (pe : Int32)  (N : Nat) {r : Int32} {r_0 : Int32} (h : fX5_switches N th nd sw so lo cl ea on lg wr pe  = some (r, r_0)) : Met l yX5_switches wsX5_switches rmX5_switches (PM D cI cZ cL [.ref h_m] [(h_m, .inr (5, [.int th, .int nd, .int sw, .int so, .int lo, .ref a_one, .ref a_oth, .ref a_isb, .int cl, .int ea, .int on, .int lg, .ref a_log, .int wr, .ref a_seq, .int pe, .ref a_mho, .ref a_mih, .ref a_far]))] sz0) (QM D (some (.int r)) (va_A [(h_m, .inr (5, [.int th, .int nd, .int sw, .int so, .int lo, .ref a_one, .ref a_oth, .ref a_isb, .int cl, .int ea, .int on, .int lg, .ref a_log, .int wr, .ref a_seq, .int pe, .ref a_mho, .ref a_mih, .ref a_far]))] sz0) [(h_m, .inr (5, [.int r_0, .int nd, .int sw, .int so, .int lo, .ref a_one, .ref a_oth, .ref a_isb, .int cl, .int ea, .int on, .int lg, .ref a_log, .int wr, .ref a_seq, .int pe, .ref a_mho, .ref a_mih, .ref a_far]))]) 0 0 (va_A [(h_m, .inr (5, [.int th, .int nd, .int sw, .int so, .int lo, .ref a_one, .ref a_oth, .ref a_isb, .int cl, .int ea, .int on, .int lg, .ref a_log, .int wr, .ref a_seq, .int pe, .ref a_mho, .ref a_mih, .ref a_far]))] sz0) := by
  refine Met.ofW (cc := cX5_switches) (maxL := 1) (ret := (some .int)) (by decide) rfl ?_
  intro p e s m args below meth c s₁ B hml hv
  obtain ⟨rfl, hsz, hP, hKK, hD0⟩ := hv
  have hK := hKK.1
  have hx := B.exec
  have hb := B.bytes
  have hr := B.returns
  have hts := atoms_spec (ws := wsX5_switches) B.pre
  have hown : s.vm.findClass RX5 = some m.cls := findClass_of_methodNamed B.named
  have hlocks := B.notSynchronized
  subst hsz
  have hD := hD0.self (sz := s.heap.size)
  generalize hAe : va_A [(h_m, .inr (5, [.int th, .int nd, .int sw, .int so, .int lo, .ref a_one, .ref a_oth, .ref a_isb, .int cl, .int ea, .int on, .int lg, .ref a_log, .int wr, .ref a_seq, .int pe, .ref a_mho, .ref a_mih, .ref a_far]))] s.heap.size = A at hD ⊢
  have hA : ∀ q : Nat, s.heap.size ≤ q → A q := fun q h => by rw [← hAe]; exact Or.inr h
  have hS : va_S A s.heap s.heap [] := va_S.rf
  have hl := lv_entry ([.ref h_m]) (n := 1) (Nat.le_of_ble_eq_true rfl)
  rw [lg_entry_eq]
  generalize (lg_sl ([.ref h_m]) ++ List.replicate (1 - (lg_sl ([.ref h_m])).length) Slot.unset).toArray = ls at hl ⊢
  have hl : lv_has ls 1 [(0, .ref h_m)] := hl
  obtain ⟨QQ, hQQ⟩ : ∃ Z, Z = MQ below (QM D (some (.int r)) A [(h_m, .inr (5, [.int r_0, .int nd, .int sw, .int so, .int lo, .ref a_one, .ref a_oth, .ref a_isb, .int cl, .int ea, .int on, .int lg, .ref a_log, .int wr, .ref a_seq, .int pe, .ref a_mho, .ref a_mih, .ref a_far]))]) ([.ref h_m] : List Value).toArray s 0 0 A := ⟨_, rfl⟩
  rw [← hQQ]
  obtain ⟨H, locs, hHe, hLe⟩ : ∃ (H : Heap) (locs : List Loc), H = s.heap ∧ locs = [] := ⟨_, _, rfl, rfl⟩
  have hP : va_P D vwCl [(h_m, .inr (5, [.int th, .int nd, .int sw, .int so, .int lo, .ref a_one, .ref a_oth, .ref a_isb, .int cl, .int ea, .int on, .int lg, .ref a_log, .int wr, .ref a_seq, .int pe, .ref a_mho, .ref a_mih, .ref a_far]))] H := by rw [hHe]; exact hP
  have hS : va_S A s.heap H locs := by rw [hHe, hLe]; exact hS
  have hW0 : ∀ QQ : State → Prop, W p l e (headSpec wsX5_switches rmX5_switches).room s m (([.ref h_m] : List Value).toArray) below meth c H locs 0 0 QQ (F0 m 0 ls []) → W p l e (headSpec wsX5_switches rmX5_switches).room s m (([.ref h_m] : List Value).toArray) below meth c s.heap [] 0 0 QQ (F0 m 0 ls []) := by rw [hHe, hLe]; exact fun _ h => h
  refine hW0 _ ?_
  clear hW0
  unfold fX5_switches at h
  refine lv_aload_n hx hb dX5_switches_0 rfl (lv_at hl 0 rfl) ?_
  refine lv_iconst (v := 0) hx hb dX5_switches_1 (by decide) ?_
  refine va_put (D := D) (ci := 5) (v := .int 0) (ty := .int) (C := RX5) (T := TX5) (N := 19) hx hb hts inX5_switches_X5 tyX5 tyX5_ok nmX5 hown hK hP hD hS 0 rfl rfl 0 (by decide) (hts _ lkX5_switches_0) (fun _ h9 => h9) rfl (by decide +kernel) rfl rfl (Nat.le_of_ble_eq_true rfl) dX5_switches_2 (fun H locs hP hD hS => ?_)
  have hP : va_P D vwCl [(h_m, .inr (5, [.int 0, .int nd, .int sw, .int so, .int lo, .ref a_one, .ref a_oth, .ref a_isb, .int cl, .int ea, .int on, .int lg, .ref a_log, .int wr, .ref a_seq, .int pe, .ref a_mho, .ref a_mih, .ref a_far]))] H := hP
  have hD : va_D A [(h_m, .inr (5, [.int 0, .int nd, .int sw, .int so, .int lo, .ref a_one, .ref a_oth, .ref a_isb, .int cl, .int ea, .int on, .int lg, .ref a_log, .int wr, .ref a_seq, .int pe, .ref a_mho, .ref a_mih, .ref a_far]))] := hD
  refine lv_aload_n hx hb dX5_switches_5 rfl (lv_at hl 0 rfl) ?_
  refine va_get (D := D) (ci := 5) (v := .int sw) (C := RX5) (T := TX5) (N := 19) hx hb hts inX5_switches_X5 hown hK hP 0 rfl rfl 2 (by decide) (hts _ lkX5_switches_1) (fun _ h9 => h9) rfl dX5_switches_6 ?_
  cases h
  rw [hQQ]
  exact W.iret hx hb hr (fun t ht hW => ⟨rfl, by rw [ht]; exact hP, hD, hS.F ht⟩) hS.2.2 dX5_switches_9

def fX5_logged (N : Nat) (th : Int32) (nd : Int32) (sw : Int32) (so : Int32) (lo : Int32) (cl : Int32) (ea : Int32) (on : Int32) (lg : Int32) (wr : Int32) (pe : Int32) (log : Nat → Int32) (p0 : Int32) : Option ((Int32) × (Int32)) :=
  bd1 (fX5_in N  p0 0 (lg - 1)) (fun v1 => jn1 (fun (y3 : Int32) => (if y3 ≤ 0 then gin ((lg - 1) - p0) 200 (some (log ((lg - 1) - p0).toNatClampNeg, y3)) else some (0, y3))) (fun g20_4 => (if v1 = 0 then g20_4 1 else g20_4 0)))
set_option maxRecDepth 100000 in
theorem inX5_logged_X5 : ∀ w ∈ wsX50, w ∈ wsX5_logged := by decide +kernel
set_option maxRecDepth 100000 in
theorem lkX5_logged_0 : (.fieldLink RX5 124 "SwitchlogModel" "logged" "I" : Cond) ∈ wsX5_logged := by decide +kernel
set_option maxRecDepth 100000 in
theorem lkX5_logged_1 : (.fieldLink RX5 35 "SwitchlogModel" "thrown" "I" : Cond) ∈ wsX5_logged := by decide +kernel
set_option maxRecDepth 100000 in
theorem lkX5_logged_2 : (.fieldLink RX5 20 "SwitchlogModel" "log" "[I" : Cond) ∈ wsX5_logged := by decide +kernel
abbrev rmX5_logged : Room := { frames := 1, cells := 0, slots := 0, locals := 22 }
set_option maxHeartbeats 4000000 in
set_option maxRecDepth 100000 in
theorem kX5_logged (l : Launch) (D : va_G) (cI cZ cL : ClassId) (sz0 : Nat) (h_m a_one a_oth a_isb a_seq a_mho a_mih a_far h_log : Nat) (th : Int32) (nd : Int32) (sw : Int32) (so : Int32) (lo : Int32) (cl : Int32) (ea : Int32) (on : Int32) (lg : Int32) (wr : Int32) (pe : Int32) (log : Nat → Int32) (p0 : Int32) (N : Nat) {r : Int32} {r_0 : Int32} (h : fX5_logged N th nd sw so lo cl ea on lg wr pe log p0 = some (r, r_0)) : Met l yX5_logged wsX5_logged rmX5_logged (PM D cI cZ cL [.ref h_m, .int p0] [(h_m, .inr (5, [.int th, .int nd, .int sw, .int so, .int lo, .ref a_one, .ref a_oth, .ref a_isb, .int cl, .int ea, .int on, .int lg, .ref h_log, .int wr, .ref a_seq, .int pe, .ref a_mho, .ref a_mih, .ref a_far])), (h_log, .inl (cI, 200, .inl log))] sz0) (QM D (some (.int r)) (va_A [(h_m, .inr (5, [.int th, .int nd, .int sw, .int so, .int lo, .ref a_one, .ref a_oth, .ref a_isb, .int cl, .int ea, .int on, .int lg, .ref h_log, .int wr, .ref a_seq, .int pe, .ref a_mho, .ref a_mih, .ref a_far])), (h_log, .inl (cI, 200, .inl log))] sz0) [(h_m, .inr (5, [.int r_0, .int nd, .int sw, .int so, .int lo, .ref a_one, .ref a_oth, .ref a_isb, .int cl, .int ea, .int on, .int lg, .ref h_log, .int wr, .ref a_seq, .int pe, .ref a_mho, .ref a_mih, .ref a_far])), (h_log, .inl (cI, 200, .inl log))]) 0 0 (va_A [(h_m, .inr (5, [.int th, .int nd, .int sw, .int so, .int lo, .ref a_one, .ref a_oth, .ref a_isb, .int cl, .int ea, .int on, .int lg, .ref h_log, .int wr, .ref a_seq, .int pe, .ref a_mho, .ref a_mih, .ref a_far])), (h_log, .inl (cI, 200, .inl log))] sz0) := by
  refine Met.ofW (cc := cX5_logged) (maxL := 2) (ret := (some .int)) (by decide) rfl ?_
  intro p e s m args below meth c s₁ B hml hv
  obtain ⟨rfl, hsz, hP, hKK, hD0⟩ := hv
  have hK := hKK.1
  have hx := B.exec
  have hb := B.bytes
  have hr := B.returns
  have hts := atoms_spec (ws := wsX5_logged) B.pre
  have hown : s.vm.findClass RX5 = some m.cls := findClass_of_methodNamed B.named
  have hlocks := B.notSynchronized
  subst hsz
  have hD := hD0.self (sz := s.heap.size)
  generalize hAe : va_A [(h_m, .inr (5, [.int th, .int nd, .int sw, .int so, .int lo, .ref a_one, .ref a_oth, .ref a_isb, .int cl, .int ea, .int on, .int lg, .ref h_log, .int wr, .ref a_seq, .int pe, .ref a_mho, .ref a_mih, .ref a_far])), (h_log, .inl (cI, 200, .inl log))] s.heap.size = A at hD ⊢
  have hA : ∀ q : Nat, s.heap.size ≤ q → A q := fun q h => by rw [← hAe]; exact Or.inr h
  have hS : va_S A s.heap s.heap [] := va_S.rf
  have hl := lv_entry ([.ref h_m, .int p0]) (n := 2) (Nat.le_of_ble_eq_true rfl)
  rw [lg_entry_eq]
  generalize (lg_sl ([.ref h_m, .int p0]) ++ List.replicate (2 - (lg_sl ([.ref h_m, .int p0])).length) Slot.unset).toArray = ls at hl ⊢
  have hl : lv_has ls 2 [(0, .ref h_m), (1, .int p0)] := hl
  obtain ⟨QQ, hQQ⟩ : ∃ Z, Z = MQ below (QM D (some (.int r)) A [(h_m, .inr (5, [.int r_0, .int nd, .int sw, .int so, .int lo, .ref a_one, .ref a_oth, .ref a_isb, .int cl, .int ea, .int on, .int lg, .ref h_log, .int wr, .ref a_seq, .int pe, .ref a_mho, .ref a_mih, .ref a_far])), (h_log, .inl (cI, 200, .inl log))]) ([.ref h_m, .int p0] : List Value).toArray s 0 0 A := ⟨_, rfl⟩
  rw [← hQQ]
  obtain ⟨H, locs, hHe, hLe⟩ : ∃ (H : Heap) (locs : List Loc), H = s.heap ∧ locs = [] := ⟨_, _, rfl, rfl⟩
  have hP : va_P D vwCl [(h_m, .inr (5, [.int th, .int nd, .int sw, .int so, .int lo, .ref a_one, .ref a_oth, .ref a_isb, .int cl, .int ea, .int on, .int lg, .ref h_log, .int wr, .ref a_seq, .int pe, .ref a_mho, .ref a_mih, .ref a_far])), (h_log, .inl (cI, 200, .inl log))] H := by rw [hHe]; exact hP
  have hS : va_S A s.heap H locs := by rw [hHe, hLe]; exact hS
  have hW0 : ∀ QQ : State → Prop, W p l e (headSpec wsX5_logged rmX5_logged).room s m (([.ref h_m, .int p0] : List Value).toArray) below meth c H locs 0 0 QQ (F0 m 0 ls []) → W p l e (headSpec wsX5_logged rmX5_logged).room s m (([.ref h_m, .int p0] : List Value).toArray) below meth c s.heap [] 0 0 QQ (F0 m 0 ls []) := by rw [hHe, hLe]; exact fun _ h => h
  refine hW0 _ ?_
  clear hW0
  unfold fX5_logged at h
  refine lv_aload_n hx hb dX5_logged_0 rfl (lv_at hl 0 rfl) ?_
  refine lv_iload_n hx hb dX5_logged_1 rfl (lv_at hl 1 rfl) ?_
  refine lv_iconst (v := 0) hx hb dX5_logged_2 (by decide) ?_
  refine lv_aload_n hx hb dX5_logged_3 rfl (lv_at hl 0 rfl) ?_
  refine va_get (D := D) (ci := 5) (v := .int lg) (C := RX5) (T := TX5) (N := 19) hx hb hts inX5_logged_X5 hown hK hP 0 rfl rfl 11 (by decide) (hts _ lkX5_logged_0) (fun _ h9 => h9) rfl dX5_logged_4 ?_
  refine lv_iconst (v := 1) hx hb dX5_logged_7 (by decide) ?_
  refine lv_isub hx hb dX5_logged_8 ?_
  obtain ⟨v1, hq2, h⟩ := bd1_e h
  refine zz_cS (As := [.int p0, .int 0, .int (lg - 1)]) ⟨hx, hb, hml, hown, hts⟩ (kX5_in l D cI cZ cL p0 0 (lg - 1) N hq2) (va_cwS 3 hts gX5_logged_X5_in rfl rfl rfl (by decide +kernel) ⟨Nat.le_of_ble_eq_true rfl, Nat.le_of_ble_eq_true rfl⟩) (hP.sub (ws' := []) [] rfl) hKK rfl hl.1 rfl (Nat.le_of_ble_eq_true rfl) dX5_logged_9 ⟨Nat.le_of_ble_eq_true rfl, Nat.le_of_ble_eq_true rfl⟩ ?_
  refine jn1_e (fun (y3 : Int32) => ∀ (H : Heap) (locs : List Loc) (ls : Array Slot), va_P D vwCl [(h_m, .inr (5, [.int th, .int nd, .int sw, .int so, .int lo, .ref a_one, .ref a_oth, .ref a_isb, .int cl, .int ea, .int on, .int lg, .ref h_log, .int wr, .ref a_seq, .int pe, .ref a_mho, .ref a_mih, .ref a_far])), (h_log, .inl (cI, 200, .inl log))] H → va_D A [(h_m, .inr (5, [.int th, .int nd, .int sw, .int so, .int lo, .ref a_one, .ref a_oth, .ref a_isb, .int cl, .int ea, .int on, .int lg, .ref h_log, .int wr, .ref a_seq, .int pe, .ref a_mho, .ref a_mih, .ref a_far])), (h_log, .inl (cI, 200, .inl log))] → va_S A s.heap H locs → lv_has ls 2 [(0, .ref h_m), (1, .int p0)] → W p l e (headSpec wsX5_logged rmX5_logged).room s m (([.ref h_m, .int p0] : List Value).toArray) below meth c H locs 0 0 QQ (F0 m 20 ls [.int y3, .ref h_m])) h (fun y3 h H locs ls hP hD hS hl => ?_) (fun g20_4 hg20_5 h => ?_)
  · refine va_put (D := D) (ci := 5) (v := .int y3) (ty := .int) (C := RX5) (T := TX5) (N := 19) hx hb hts inX5_logged_X5 tyX5 tyX5_ok nmX5 hown hK hP hD hS 0 rfl rfl 0 (by decide) (hts _ lkX5_logged_1) (fun _ h9 => h9) rfl (by decide +kernel) rfl rfl (Nat.le_of_ble_eq_true rfl) dX5_logged_20 (fun H locs hP hD hS => ?_)
    have hP : va_P D vwCl [(h_m, .inr (5, [.int y3, .int nd, .int sw, .int so, .int lo, .ref a_one, .ref a_oth, .ref a_isb, .int cl, .int ea, .int on, .int lg, .ref h_log, .int wr, .ref a_seq, .int pe, .ref a_mho, .ref a_mih, .ref a_far])), (h_log, .inl (cI, 200, .inl log))] H := hP
    have hD : va_D A [(h_m, .inr (5, [.int y3, .int nd, .int sw, .int so, .int lo, .ref a_one, .ref a_oth, .ref a_isb, .int cl, .int ea, .int on, .int lg, .ref h_log, .int wr, .ref a_seq, .int pe, .ref a_mho, .ref a_mih, .ref a_far])), (h_log, .inl (cI, 200, .inl log))] := hD
    refine lv_aload_n hx hb dX5_logged_23 rfl (lv_at hl 0 rfl) ?_
    refine va_get (D := D) (ci := 5) (v := .int y3) (C := RX5) (T := TX5) (N := 19) hx hb hts inX5_logged_X5 hown hK hP 0 rfl rfl 0 (by decide) (hts _ lkX5_logged_1) (fun _ h9 => h9) rfl dX5_logged_24 ?_
    refine lv_if_le (tgt := 34) hx hb dX5_logged_27 (by decide) (fun c6 => ?_) (fun c6 => ?_)
    · have h := it_t h c6
      refine lv_aload_n hx hb dX5_logged_34 rfl (lv_at hl 0 rfl) ?_
      refine va_get (D := D) (ci := 5) (v := .ref h_log) (C := RX5) (T := TX5) (N := 19) hx hb hts inX5_logged_X5 hown hK hP 0 rfl rfl 12 (by decide) (hts _ lkX5_logged_2) (fun _ h9 => h9) rfl dX5_logged_35 ?_
      refine lv_aload_n hx hb dX5_logged_38 rfl (lv_at hl 0 rfl) ?_
      refine va_get (D := D) (ci := 5) (v := .int lg) (C := RX5) (T := TX5) (N := 19) hx hb hts inX5_logged_X5 hown hK hP 0 rfl rfl 11 (by decide) (hts _ lkX5_logged_0) (fun _ h9 => h9) rfl dX5_logged_39 ?_
      refine lv_iconst (v := 1) hx hb dX5_logged_42 (by decide) ?_
      refine lv_isub hx hb dX5_logged_43 ?_
      refine lv_iload_n hx hb dX5_logged_44 rfl (lv_at hl 1 rfl) ?_
      refine lv_isub hx hb dX5_logged_45 ?_
      obtain ⟨hi7, h⟩ := gin_e h
      refine va_iald hx hb hK hP 1 0 rfl rfl hi7 dX5_logged_46 ?_
      cases h
      rw [hQQ]
      exact W.iret hx hb hr (fun t ht hW => ⟨rfl, by rw [ht]; exact hP, hD, hS.F ht⟩) hS.2.2 dX5_logged_47
    · have h := it_f h c6
      refine lv_iconst (v := 0) hx hb dX5_logged_30 (by decide) ?_
      refine lv_goto (tgt := 47) hx hb dX5_logged_31 (by decide) ?_
      cases h
      rw [hQQ]
      exact W.iret hx hb hr (fun t ht hW => ⟨rfl, by rw [ht]; exact hP, hD, hS.F ht⟩) hS.2.2 dX5_logged_47
  · refine lv_if_eq (tgt := 19) hx hb dX5_logged_12 (by decide) (fun c8 => ?_) (fun c8 => ?_)
    · have h := it_t h c8
      refine lv_iconst (v := 1) hx hb dX5_logged_19 (by decide) ?_
      exact hg20_5 1 h H locs ls hP hD hS (lv_sub hl [0, 1] rfl)
    · have h := it_f h c8
      refine lv_iconst (v := 0) hx hb dX5_logged_15 (by decide) ?_
      refine lv_goto (tgt := 20) hx hb dX5_logged_16 (by decide) ?_
      exact hg20_5 0 h H locs ls hP hD hS (lv_sub hl [0, 1] rfl)

def fX5_times (N : Nat) (th : Int32) (nd : Int32) (sw : Int32) (so : Int32) (lo : Int32) (cl : Int32) (ea : Int32) (on : Int32) (lg : Int32) (wr : Int32) (pe : Int32) (log : Nat → Int32) (p0 : Int32) (p1 : Int32) : Option ((Int32) × (Int32)) :=
  bd2 (fX5_asks N th nd sw so lo cl ea on lg wr pe p0 p1) (fun v2 w3 => (if v2 = 0 then some (0, w3) else it2 (fun g14_7 (x5 : Int32) (x6 : Int32) => (if lg ≤ x5 then some (x6, w3) else gin x5 200 ((if (log x5.toNatClampNeg) = (((100 : Int32) * p0) + p1) then g14_7 (x5 + 1) (x6 + 1) else g14_7 (x5 + 1) (x6 + 0))))) N 0 0))
set_option maxRecDepth 100000 in
theorem inX5_times_X5 : ∀ w ∈ wsX50, w ∈ wsX5_times := by decide +kernel
set_option maxRecDepth 100000 in
theorem lkX5_times_0 : (.fieldLink RX5 124 "SwitchlogModel" "logged" "I" : Cond) ∈ wsX5_times := by decide +kernel
set_option maxRecDepth 100000 in
theorem lkX5_times_1 : (.fieldLink RX5 20 "SwitchlogModel" "log" "[I" : Cond) ∈ wsX5_times := by decide +kernel
abbrev rmX5_times : Room := { frames := 3, cells := 0, slots := 0, locals := 65 }
set_option maxHeartbeats 4000000 in
set_option maxRecDepth 100000 in
theorem kX5_times (l : Launch) (D : va_G) (cI cZ cL : ClassId) (sz0 : Nat) (h_m a_one a_oth a_isb a_seq a_mho a_mih a_far h_log : Nat) (th : Int32) (nd : Int32) (sw : Int32) (so : Int32) (lo : Int32) (cl : Int32) (ea : Int32) (on : Int32) (lg : Int32) (wr : Int32) (pe : Int32) (log : Nat → Int32) (p0 : Int32) (p1 : Int32) (N : Nat) {r : Int32} {r_0 : Int32} (h : fX5_times N th nd sw so lo cl ea on lg wr pe log p0 p1 = some (r, r_0)) : Met l yX5_times wsX5_times rmX5_times (PM D cI cZ cL [.ref h_m, .int p0, .int p1] [(h_m, .inr (5, [.int th, .int nd, .int sw, .int so, .int lo, .ref a_one, .ref a_oth, .ref a_isb, .int cl, .int ea, .int on, .int lg, .ref h_log, .int wr, .ref a_seq, .int pe, .ref a_mho, .ref a_mih, .ref a_far])), (h_log, .inl (cI, 200, .inl log))] sz0) (QM D (some (.int r)) (va_A [(h_m, .inr (5, [.int th, .int nd, .int sw, .int so, .int lo, .ref a_one, .ref a_oth, .ref a_isb, .int cl, .int ea, .int on, .int lg, .ref h_log, .int wr, .ref a_seq, .int pe, .ref a_mho, .ref a_mih, .ref a_far])), (h_log, .inl (cI, 200, .inl log))] sz0) [(h_m, .inr (5, [.int r_0, .int nd, .int sw, .int so, .int lo, .ref a_one, .ref a_oth, .ref a_isb, .int cl, .int ea, .int on, .int lg, .ref h_log, .int wr, .ref a_seq, .int pe, .ref a_mho, .ref a_mih, .ref a_far])), (h_log, .inl (cI, 200, .inl log))]) 0 0 (va_A [(h_m, .inr (5, [.int th, .int nd, .int sw, .int so, .int lo, .ref a_one, .ref a_oth, .ref a_isb, .int cl, .int ea, .int on, .int lg, .ref h_log, .int wr, .ref a_seq, .int pe, .ref a_mho, .ref a_mih, .ref a_far])), (h_log, .inl (cI, 200, .inl log))] sz0) := by
  refine Met.ofW (cc := cX5_times) (maxL := 5) (ret := (some .int)) (by decide) rfl ?_
  intro p e s m args below meth c s₁ B hml hv
  obtain ⟨rfl, hsz, hP, hKK, hD0⟩ := hv
  have hK := hKK.1
  have hx := B.exec
  have hb := B.bytes
  have hr := B.returns
  have hts := atoms_spec (ws := wsX5_times) B.pre
  have hown : s.vm.findClass RX5 = some m.cls := findClass_of_methodNamed B.named
  have hlocks := B.notSynchronized
  subst hsz
  have hD := hD0.self (sz := s.heap.size)
  generalize hAe : va_A [(h_m, .inr (5, [.int th, .int nd, .int sw, .int so, .int lo, .ref a_one, .ref a_oth, .ref a_isb, .int cl, .int ea, .int on, .int lg, .ref h_log, .int wr, .ref a_seq, .int pe, .ref a_mho, .ref a_mih, .ref a_far])), (h_log, .inl (cI, 200, .inl log))] s.heap.size = A at hD ⊢
  have hA : ∀ q : Nat, s.heap.size ≤ q → A q := fun q h => by rw [← hAe]; exact Or.inr h
  have hS : va_S A s.heap s.heap [] := va_S.rf
  have hl := lv_entry ([.ref h_m, .int p0, .int p1]) (n := 5) (Nat.le_of_ble_eq_true rfl)
  rw [lg_entry_eq]
  generalize (lg_sl ([.ref h_m, .int p0, .int p1]) ++ List.replicate (5 - (lg_sl ([.ref h_m, .int p0, .int p1])).length) Slot.unset).toArray = ls at hl ⊢
  have hl : lv_has ls 5 [(0, .ref h_m), (1, .int p0), (2, .int p1)] := hl
  obtain ⟨QQ, hQQ⟩ : ∃ Z, Z = MQ below (QM D (some (.int r)) A [(h_m, .inr (5, [.int r_0, .int nd, .int sw, .int so, .int lo, .ref a_one, .ref a_oth, .ref a_isb, .int cl, .int ea, .int on, .int lg, .ref h_log, .int wr, .ref a_seq, .int pe, .ref a_mho, .ref a_mih, .ref a_far])), (h_log, .inl (cI, 200, .inl log))]) ([.ref h_m, .int p0, .int p1] : List Value).toArray s 0 0 A := ⟨_, rfl⟩
  rw [← hQQ]
  obtain ⟨H, locs, hHe, hLe⟩ : ∃ (H : Heap) (locs : List Loc), H = s.heap ∧ locs = [] := ⟨_, _, rfl, rfl⟩
  have hP : va_P D vwCl [(h_m, .inr (5, [.int th, .int nd, .int sw, .int so, .int lo, .ref a_one, .ref a_oth, .ref a_isb, .int cl, .int ea, .int on, .int lg, .ref h_log, .int wr, .ref a_seq, .int pe, .ref a_mho, .ref a_mih, .ref a_far])), (h_log, .inl (cI, 200, .inl log))] H := by rw [hHe]; exact hP
  have hS : va_S A s.heap H locs := by rw [hHe, hLe]; exact hS
  have hW0 : ∀ QQ : State → Prop, W p l e (headSpec wsX5_times rmX5_times).room s m (([.ref h_m, .int p0, .int p1] : List Value).toArray) below meth c H locs 0 0 QQ (F0 m 0 ls []) → W p l e (headSpec wsX5_times rmX5_times).room s m (([.ref h_m, .int p0, .int p1] : List Value).toArray) below meth c s.heap [] 0 0 QQ (F0 m 0 ls []) := by rw [hHe, hLe]; exact fun _ h => h
  refine hW0 _ ?_
  clear hW0
  unfold fX5_times at h
  refine lv_iconst (v := 0) hx hb dX5_times_0 (by decide) ?_
  refine lv_istore_n (lv' := [(3, .int 0), (0, .ref h_m), (1, .int p0), (2, .int p1)]) hx hb dX5_times_1 rfl hl (by decide) rfl (fun ls hl => ?_)
  refine lv_aload_n hx hb dX5_times_2 rfl (lv_at hl 1 rfl) ?_
  refine lv_iload_n hx hb dX5_times_3 rfl (lv_at hl 2 rfl) ?_
  refine lv_iload_n hx hb dX5_times_4 rfl (lv_at hl 3 rfl) ?_
  obtain ⟨v2, w3, hq1, h⟩ := bd2_e h
  refine zz_mV (As := [.int p0, .int p1]) (wr := [(h_log, .inl (cI, 200, .inl log))]) (w1 := [(h_m, .inr (5, [.int w3, .int nd, .int sw, .int so, .int lo, .ref a_one, .ref a_oth, .ref a_isb, .int cl, .int ea, .int on, .int lg, .ref h_log, .int wr, .ref a_seq, .int pe, .ref a_mho, .ref a_mih, .ref a_far]))]) (wt' := [(h_m, .inr (5, [.int w3, .int nd, .int sw, .int so, .int lo, .ref a_one, .ref a_oth, .ref a_isb, .int cl, .int ea, .int on, .int lg, .ref h_log, .int wr, .ref a_seq, .int pe, .ref a_mho, .ref a_mih, .ref a_far])), (h_log, .inl (cI, 200, .inl log))]) (wc := [(h_m, .inr (5, [.int th, .int nd, .int sw, .int so, .int lo, .ref a_one, .ref a_oth, .ref a_isb, .int cl, .int ea, .int on, .int lg, .ref h_log, .int wr, .ref a_seq, .int pe, .ref a_mho, .ref a_mih, .ref a_far]))]) (rv := (some (.int v2))) ⟨hx, hb, hml, hown, hts⟩ (kX5_asks l D cI cZ cL H.size h_m a_one a_oth a_isb h_log a_seq a_mho a_mih a_far th nd sw so lo cl ea on lg wr pe p0 p1 N hq1) (cwV 2 hts gX5_times_X5_asks rfl rfl rfl (by decide +kernel) ⟨Nat.le_of_ble_eq_true rfl, Nat.le_of_ble_eq_true rfl⟩) hP hD hS hA hKK [0] [1] [1, 0] rfl rfl (by decide) (by decide) rfl (by decide) (by decide) (va_recv hK hP (ci := 5) (q0 := 0) rfl rfl) rfl hl.1 rfl (Nat.le_of_ble_eq_true rfl) dX5_times_5 ⟨Nat.le_of_ble_eq_true rfl, Nat.le_of_ble_eq_true rfl⟩ (fun H locs hP hD hS hz9 => ?_)
  show W p l e _ s m _ below meth c H locs _ _ QQ (F0 m 8 ls (.int v2 :: []))
  refine lv_if_eq (tgt := 53) hx hb dX5_times_8 (by decide) (fun c4 => ?_) (fun c4 => ?_)
  · have h := it_t h c4
    refine lv_iload_n hx hb dX5_times_53 rfl (lv_at hl 0 rfl) ?_
    cases h
    rw [hQQ]
    exact W.iret hx hb hr (fun t ht hW => ⟨rfl, by rw [ht]; exact hP, hD, hS.F ht⟩) hS.2.2 dX5_times_54
  · have h := it_f h c4
    refine lv_iconst (v := 0) hx hb dX5_times_11 (by decide) ?_
    refine lv_istore (lv' := [(4, .int 0), (3, .int 0), (0, .ref h_m), (1, .int p0), (2, .int p1)]) hx hb dX5_times_12 hl (by decide) rfl (fun ls hl => ?_)
    refine it2_e (fun (x5 : Int32) (x6 : Int32) => ∀ (H : Heap) (locs : List Loc) (ls : Array Slot), va_P D vwCl [(h_m, .inr (5, [.int w3, .int nd, .int sw, .int so, .int lo, .ref a_one, .ref a_oth, .ref a_isb, .int cl, .int ea, .int on, .int lg, .ref h_log, .int wr, .ref a_seq, .int pe, .ref a_mho, .ref a_mih, .ref a_far])), (h_log, .inl (cI, 200, .inl log))] H → va_D A [(h_m, .inr (5, [.int w3, .int nd, .int sw, .int so, .int lo, .ref a_one, .ref a_oth, .ref a_isb, .int cl, .int ea, .int on, .int lg, .ref h_log, .int wr, .ref a_seq, .int pe, .ref a_mho, .ref a_mih, .ref a_far])), (h_log, .inl (cI, 200, .inl log))] → va_S A s.heap H locs → lv_has ls 5 [(4, .int x5), (3, .int x6), (0, .ref h_m), (1, .int p0), (2, .int p1)] → W p l e (headSpec wsX5_times rmX5_times).room s m (([.ref h_m, .int p0, .int p1] : List Value).toArray) below meth c H locs 0 0 QQ (F0 m 14 ls [])) (fun g14_7 hg14_8 x5 x6 h H locs ls hP hD hS hl => ?_) N 0 0 h H locs ls hP hD hS (lv_sub hl [0, 1, 2, 3, 4] rfl)
    refine lv_iload hx hb dX5_times_14 (lv_at hl 0 rfl) ?_
    refine lv_aload_n hx hb dX5_times_16 rfl (lv_at hl 2 rfl) ?_
    refine va_get (D := D) (ci := 5) (v := .int lg) (C := RX5) (T := TX5) (N := 19) hx hb hts inX5_times_X5 hown hK hP 0 rfl rfl 11 (by decide) (hts _ lkX5_times_0) (fun _ h9 => h9) rfl dX5_times_17 ?_
    refine lv_icmp_ge (tgt := 53) hx hb dX5_times_20 (by decide) (fun c9 => ?_) (fun c9 => ?_)
    · have h := it_t h c9
      refine lv_iload_n hx hb dX5_times_53 rfl (lv_at hl 1 rfl) ?_
      cases h
      rw [hQQ]
      exact W.iret hx hb hr (fun t ht hW => ⟨rfl, by rw [ht]; exact hP, hD, hS.F ht⟩) hS.2.2 dX5_times_54
    · have h := it_f h c9
      refine lv_iload_n hx hb dX5_times_23 rfl (lv_at hl 1 rfl) ?_
      refine lv_aload_n hx hb dX5_times_24 rfl (lv_at hl 2 rfl) ?_
      refine va_get (D := D) (ci := 5) (v := .ref h_log) (C := RX5) (T := TX5) (N := 19) hx hb hts inX5_times_X5 hown hK hP 0 rfl rfl 12 (by decide) (hts _ lkX5_times_1) (fun _ h9 => h9) rfl dX5_times_25 ?_
      refine lv_iload hx hb dX5_times_28 (lv_at hl 0 rfl) ?_
      obtain ⟨hi10, h⟩ := gin_e h
      refine va_iald hx hb hK hP 1 0 rfl rfl hi10 dX5_times_30 ?_
      refine lv_bipush (v := 100) hx hb dX5_times_31 (by decide) ?_
      refine lv_iload_n hx hb dX5_times_33 rfl (lv_at hl 3 rfl) ?_
      refine lv_imul hx hb dX5_times_34 ?_
      refine lv_iload_n hx hb dX5_times_35 rfl (lv_at hl 4 rfl) ?_
      refine lv_iadd hx hb dX5_times_36 ?_
      refine lv_icmp_ne (tgt := 44) hx hb dX5_times_37 (by decide) (fun c11 => ?_) (fun c11 => ?_)
      · have h := it_f h c11
        refine lv_iconst (v := 0) hx hb dX5_times_44 (by decide) ?_
        refine lv_iadd hx hb dX5_times_45 ?_
        refine lv_istore_n (lv' := [(3, .int (x6 + 0)), (4, .int x5), (0, .ref h_m), (1, .int p0), (2, .int p1)]) hx hb dX5_times_46 rfl hl (by decide) rfl (fun ls hl => ?_)
        refine lv_iinc (v := x5 + 1) (lv' := [(4, .int (x5 + 1)), (3, .int (x6 + 0)), (0, .ref h_m), (1, .int p0), (2, .int p1)]) hx hb dX5_times_47 hl (k := 1) rfl rfl (by decide) rfl (fun ls hl => ?_)
        refine lv_goto (tgt := 14) hx hb dX5_times_50 (by decide) ?_
        exact hg14_8 (x5 + 1) (x6 + 0) h H locs ls hP hD hS (lv_sub hl [0, 1, 2, 3, 4] rfl)
      · have h := it_t h c11
        refine lv_iconst (v := 1) hx hb dX5_times_40 (by decide) ?_
        refine lv_goto (tgt := 45) hx hb dX5_times_41 (by decide) ?_
        refine lv_iadd hx hb dX5_times_45 ?_
        refine lv_istore_n (lv' := [(3, .int (x6 + 1)), (4, .int x5), (0, .ref h_m), (1, .int p0), (2, .int p1)]) hx hb dX5_times_46 rfl hl (by decide) rfl (fun ls hl => ?_)
        refine lv_iinc (v := x5 + 1) (lv' := [(4, .int (x5 + 1)), (3, .int (x6 + 1)), (0, .ref h_m), (1, .int p0), (2, .int p1)]) hx hb dX5_times_47 hl (k := 1) rfl rfl (by decide) rfl (fun ls hl => ?_)
        refine lv_goto (tgt := 14) hx hb dX5_times_50 (by decide) ?_
        exact hg14_8 (x5 + 1) (x6 + 1) h H locs ls hP hD hS (lv_sub hl [0, 1, 2, 3, 4] rfl)

def fX5_write (N : Nat) (th : Int32) (nd : Int32) (sw : Int32) (so : Int32) (lo : Int32) (cl : Int32) (ea : Int32) (on : Int32) (lg : Int32) (wr : Int32) (pe : Int32) (seq : Nat → Int32) (p0 : Int32) (p1 : Int32) : Option ((Int32) × (Int32) × (Int32) × (Nat → Int32)) :=
  bd2 (fX5_asks N th nd sw so lo cl ea on lg wr pe p0 p1) (fun v2 w3 => jn3 (fun (w4 : Int32) (w5 : Int32) (w6 : Nat → Int32) => (if w4 ≤ 0 then gin w5 30 (some (w5 + 1, w4, w5 + 1, upd w6 w5.toNatClampNeg (((100 : Int32) * p0) + p1))) else some (0, w4, w5, w6))) (fun g27_7 => (if v2 = 0 then g27_7 w3 wr seq else (if wr = 30 then g27_7 3 wr seq else g27_7 0 wr seq))))
set_option maxRecDepth 100000 in
theorem inX5_write_X5 : ∀ w ∈ wsX50, w ∈ wsX5_write := by decide +kernel
set_option maxRecDepth 100000 in
theorem lkX5_write_0 : (.fieldLink RX5 35 "SwitchlogModel" "thrown" "I" : Cond) ∈ wsX5_write := by decide +kernel
set_option maxRecDepth 100000 in
theorem lkX5_write_1 : (.fieldLink RX5 23 "SwitchlogModel" "sequence" "[I" : Cond) ∈ wsX5_write := by decide +kernel
set_option maxRecDepth 100000 in
theorem lkX5_write_2 : (.fieldLink RX5 137 "SwitchlogModel" "written" "I" : Cond) ∈ wsX5_write := by decide +kernel
abbrev rmX5_write : Room := { frames := 3, cells := 0, slots := 0, locals := 65 }
set_option maxHeartbeats 4000000 in
set_option maxRecDepth 100000 in
theorem kX5_write (l : Launch) (D : va_G) (cI cZ cL : ClassId) (sz0 : Nat) (h_m a_one a_oth a_isb a_log a_mho a_mih a_far h_seq : Nat) (th : Int32) (nd : Int32) (sw : Int32) (so : Int32) (lo : Int32) (cl : Int32) (ea : Int32) (on : Int32) (lg : Int32) (wr : Int32) (pe : Int32) (seq : Nat → Int32) (p0 : Int32) (p1 : Int32) (N : Nat) {r : Int32} {r_0 : Int32} {r_1 : Int32} {r_2 : Nat → Int32} (h : fX5_write N th nd sw so lo cl ea on lg wr pe seq p0 p1 = some (r, r_0, r_1, r_2)) : Met l yX5_write wsX5_write rmX5_write (PM D cI cZ cL [.ref h_m, .int p0, .int p1] [(h_m, .inr (5, [.int th, .int nd, .int sw, .int so, .int lo, .ref a_one, .ref a_oth, .ref a_isb, .int cl, .int ea, .int on, .int lg, .ref a_log, .int wr, .ref h_seq, .int pe, .ref a_mho, .ref a_mih, .ref a_far])), (h_seq, .inl (cI, 30, .inl seq))] sz0) (QM D (some (.int r)) (va_A [(h_m, .inr (5, [.int th, .int nd, .int sw, .int so, .int lo, .ref a_one, .ref a_oth, .ref a_isb, .int cl, .int ea, .int on, .int lg, .ref a_log, .int wr, .ref h_seq, .int pe, .ref a_mho, .ref a_mih, .ref a_far])), (h_seq, .inl (cI, 30, .inl seq))] sz0) [(h_m, .inr (5, [.int r_0, .int nd, .int sw, .int so, .int lo, .ref a_one, .ref a_oth, .ref a_isb, .int cl, .int ea, .int on, .int lg, .ref a_log, .int r_1, .ref h_seq, .int pe, .ref a_mho, .ref a_mih, .ref a_far])), (h_seq, .inl (cI, 30, .inl r_2))]) 0 0 (va_A [(h_m, .inr (5, [.int th, .int nd, .int sw, .int so, .int lo, .ref a_one, .ref a_oth, .ref a_isb, .int cl, .int ea, .int on, .int lg, .ref a_log, .int wr, .ref h_seq, .int pe, .ref a_mho, .ref a_mih, .ref a_far])), (h_seq, .inl (cI, 30, .inl seq))] sz0) := by
  refine Met.ofW (cc := cX5_write) (maxL := 3) (ret := (some .int)) (by decide) rfl ?_
  intro p e s m args below meth c s₁ B hml hv
  obtain ⟨rfl, hsz, hP, hKK, hD0⟩ := hv
  have hK := hKK.1
  have hx := B.exec
  have hb := B.bytes
  have hr := B.returns
  have hts := atoms_spec (ws := wsX5_write) B.pre
  have hown : s.vm.findClass RX5 = some m.cls := findClass_of_methodNamed B.named
  have hlocks := B.notSynchronized
  subst hsz
  have hD := hD0.self (sz := s.heap.size)
  generalize hAe : va_A [(h_m, .inr (5, [.int th, .int nd, .int sw, .int so, .int lo, .ref a_one, .ref a_oth, .ref a_isb, .int cl, .int ea, .int on, .int lg, .ref a_log, .int wr, .ref h_seq, .int pe, .ref a_mho, .ref a_mih, .ref a_far])), (h_seq, .inl (cI, 30, .inl seq))] s.heap.size = A at hD ⊢
  have hA : ∀ q : Nat, s.heap.size ≤ q → A q := fun q h => by rw [← hAe]; exact Or.inr h
  have hS : va_S A s.heap s.heap [] := va_S.rf
  have hl := lv_entry ([.ref h_m, .int p0, .int p1]) (n := 3) (Nat.le_of_ble_eq_true rfl)
  rw [lg_entry_eq]
  generalize (lg_sl ([.ref h_m, .int p0, .int p1]) ++ List.replicate (3 - (lg_sl ([.ref h_m, .int p0, .int p1])).length) Slot.unset).toArray = ls at hl ⊢
  have hl : lv_has ls 3 [(0, .ref h_m), (1, .int p0), (2, .int p1)] := hl
  obtain ⟨QQ, hQQ⟩ : ∃ Z, Z = MQ below (QM D (some (.int r)) A [(h_m, .inr (5, [.int r_0, .int nd, .int sw, .int so, .int lo, .ref a_one, .ref a_oth, .ref a_isb, .int cl, .int ea, .int on, .int lg, .ref a_log, .int r_1, .ref h_seq, .int pe, .ref a_mho, .ref a_mih, .ref a_far])), (h_seq, .inl (cI, 30, .inl r_2))]) ([.ref h_m, .int p0, .int p1] : List Value).toArray s 0 0 A := ⟨_, rfl⟩
  rw [← hQQ]
  obtain ⟨H, locs, hHe, hLe⟩ : ∃ (H : Heap) (locs : List Loc), H = s.heap ∧ locs = [] := ⟨_, _, rfl, rfl⟩
  have hP : va_P D vwCl [(h_m, .inr (5, [.int th, .int nd, .int sw, .int so, .int lo, .ref a_one, .ref a_oth, .ref a_isb, .int cl, .int ea, .int on, .int lg, .ref a_log, .int wr, .ref h_seq, .int pe, .ref a_mho, .ref a_mih, .ref a_far])), (h_seq, .inl (cI, 30, .inl seq))] H := by rw [hHe]; exact hP
  have hS : va_S A s.heap H locs := by rw [hHe, hLe]; exact hS
  have hW0 : ∀ QQ : State → Prop, W p l e (headSpec wsX5_write rmX5_write).room s m (([.ref h_m, .int p0, .int p1] : List Value).toArray) below meth c H locs 0 0 QQ (F0 m 0 ls []) → W p l e (headSpec wsX5_write rmX5_write).room s m (([.ref h_m, .int p0, .int p1] : List Value).toArray) below meth c s.heap [] 0 0 QQ (F0 m 0 ls []) := by rw [hHe, hLe]; exact fun _ h => h
  refine hW0 _ ?_
  clear hW0
  unfold fX5_write at h
  refine lv_aload_n hx hb dX5_write_0 rfl (lv_at hl 0 rfl) ?_
  refine lv_iload_n hx hb dX5_write_1 rfl (lv_at hl 1 rfl) ?_
  refine lv_iload_n hx hb dX5_write_2 rfl (lv_at hl 2 rfl) ?_
  obtain ⟨v2, w3, hq1, h⟩ := bd2_e h
  refine zz_mV (As := [.int p0, .int p1]) (wr := [(h_seq, .inl (cI, 30, .inl seq))]) (w1 := [(h_m, .inr (5, [.int w3, .int nd, .int sw, .int so, .int lo, .ref a_one, .ref a_oth, .ref a_isb, .int cl, .int ea, .int on, .int lg, .ref a_log, .int wr, .ref h_seq, .int pe, .ref a_mho, .ref a_mih, .ref a_far]))]) (wt' := [(h_m, .inr (5, [.int w3, .int nd, .int sw, .int so, .int lo, .ref a_one, .ref a_oth, .ref a_isb, .int cl, .int ea, .int on, .int lg, .ref a_log, .int wr, .ref h_seq, .int pe, .ref a_mho, .ref a_mih, .ref a_far])), (h_seq, .inl (cI, 30, .inl seq))]) (wc := [(h_m, .inr (5, [.int th, .int nd, .int sw, .int so, .int lo, .ref a_one, .ref a_oth, .ref a_isb, .int cl, .int ea, .int on, .int lg, .ref a_log, .int wr, .ref h_seq, .int pe, .ref a_mho, .ref a_mih, .ref a_far]))]) (rv := (some (.int v2))) ⟨hx, hb, hml, hown, hts⟩ (kX5_asks l D cI cZ cL H.size h_m a_one a_oth a_isb a_log h_seq a_mho a_mih a_far th nd sw so lo cl ea on lg wr pe p0 p1 N hq1) (cwV 2 hts gX5_write_X5_asks rfl rfl rfl (by decide +kernel) ⟨Nat.le_of_ble_eq_true rfl, Nat.le_of_ble_eq_true rfl⟩) hP hD hS hA hKK [0] [1] [1, 0] rfl rfl (by decide) (by decide) rfl (by decide) (by decide) (va_recv hK hP (ci := 5) (q0 := 0) rfl rfl) rfl hl.1 rfl (Nat.le_of_ble_eq_true rfl) dX5_write_3 ⟨Nat.le_of_ble_eq_true rfl, Nat.le_of_ble_eq_true rfl⟩ (fun H locs hP hD hS hz9 => ?_)
  show W p l e _ s m _ below meth c H locs _ _ QQ (F0 m 6 ls (.int v2 :: []))
  refine jn3_e (fun (w4 : Int32) (w5 : Int32) (w6 : Nat → Int32) => ∀ (H : Heap) (locs : List Loc) (ls : Array Slot), va_P D vwCl [(h_m, .inr (5, [.int w4, .int nd, .int sw, .int so, .int lo, .ref a_one, .ref a_oth, .ref a_isb, .int cl, .int ea, .int on, .int lg, .ref a_log, .int w5, .ref h_seq, .int pe, .ref a_mho, .ref a_mih, .ref a_far])), (h_seq, .inl (cI, 30, .inl w6))] H → va_D A [(h_m, .inr (5, [.int w4, .int nd, .int sw, .int so, .int lo, .ref a_one, .ref a_oth, .ref a_isb, .int cl, .int ea, .int on, .int lg, .ref a_log, .int w5, .ref h_seq, .int pe, .ref a_mho, .ref a_mih, .ref a_far])), (h_seq, .inl (cI, 30, .inl w6))] → va_S A s.heap H locs → lv_has ls 3 [(0, .ref h_m), (1, .int p0), (2, .int p1)] → W p l e (headSpec wsX5_write rmX5_write).room s m (([.ref h_m, .int p0, .int p1] : List Value).toArray) below meth c H locs 0 0 QQ (F0 m 27 ls [])) h (fun w4 w5 w6 h H locs ls hP hD hS hl => ?_) (fun g27_7 hg27_8 h => ?_)
  · refine lv_aload_n hx hb dX5_write_27 rfl (lv_at hl 0 rfl) ?_
    refine va_get (D := D) (ci := 5) (v := .int w4) (C := RX5) (T := TX5) (N := 19) hx hb hts inX5_write_X5 hown hK hP 0 rfl rfl 0 (by decide) (hts _ lkX5_write_0) (fun _ h9 => h9) rfl dX5_write_28 ?_
    refine lv_if_le (tgt := 36) hx hb dX5_write_31 (by decide) (fun c9 => ?_) (fun c9 => ?_)
    · have h := it_t h c9
      refine lv_aload_n hx hb dX5_write_36 rfl (lv_at hl 0 rfl) ?_
      refine va_get (D := D) (ci := 5) (v := .ref h_seq) (C := RX5) (T := TX5) (N := 19) hx hb hts inX5_write_X5 hown hK hP 0 rfl rfl 14 (by decide) (hts _ lkX5_write_1) (fun _ h9 => h9) rfl dX5_write_37 ?_
      refine lv_aload_n hx hb dX5_write_40 rfl (lv_at hl 0 rfl) ?_
      refine va_get (D := D) (ci := 5) (v := .int w5) (C := RX5) (T := TX5) (N := 19) hx hb hts inX5_write_X5 hown hK hP 0 rfl rfl 13 (by decide) (hts _ lkX5_write_2) (fun _ h9 => h9) rfl dX5_write_41 ?_
      refine lv_bipush (v := 100) hx hb dX5_write_44 (by decide) ?_
      refine lv_iload_n hx hb dX5_write_46 rfl (lv_at hl 1 rfl) ?_
      refine lv_imul hx hb dX5_write_47 ?_
      refine lv_iload_n hx hb dX5_write_48 rfl (lv_at hl 2 rfl) ?_
      refine lv_iadd hx hb dX5_write_49 ?_
      obtain ⟨hi10, h⟩ := gin_e h
      refine va_iast hx hb hK hP hD hS 1 0 rfl rfl hi10 dX5_write_50 (fun H locs hP hD hS => ?_)
      have hP : va_P D vwCl [(h_m, .inr (5, [.int w4, .int nd, .int sw, .int so, .int lo, .ref a_one, .ref a_oth, .ref a_isb, .int cl, .int ea, .int on, .int lg, .ref a_log, .int w5, .ref h_seq, .int pe, .ref a_mho, .ref a_mih, .ref a_far])), (h_seq, .inl (cI, 30, .inl (upd w6 w5.toNatClampNeg (((100 : Int32) * p0) + p1))))] H := hP
      have hD : va_D A [(h_m, .inr (5, [.int w4, .int nd, .int sw, .int so, .int lo, .ref a_one, .ref a_oth, .ref a_isb, .int cl, .int ea, .int on, .int lg, .ref a_log, .int w5, .ref h_seq, .int pe, .ref a_mho, .ref a_mih, .ref a_far])), (h_seq, .inl (cI, 30, .inl (upd w6 w5.toNatClampNeg (((100 : Int32) * p0) + p1))))] := hD
      refine lv_aload_n hx hb dX5_write_51 rfl (lv_at hl 0 rfl) ?_
      refine lv_dup hx hb dX5_write_52 rfl ?_
      refine va_get (D := D) (ci := 5) (v := .int w5) (C := RX5) (T := TX5) (N := 19) hx hb hts inX5_write_X5 hown hK hP 0 rfl rfl 13 (by decide) (hts _ lkX5_write_2) (fun _ h9 => h9) rfl dX5_write_53 ?_
      refine lv_iconst (v := 1) hx hb dX5_write_56 (by decide) ?_
      refine lv_iadd hx hb dX5_write_57 ?_
      refine va_put (D := D) (ci := 5) (v := .int (w5 + 1)) (ty := .int) (C := RX5) (T := TX5) (N := 19) hx hb hts inX5_write_X5 tyX5 tyX5_ok nmX5 hown hK hP hD hS 0 rfl rfl 13 (by decide) (hts _ lkX5_write_2) (fun _ h9 => h9) rfl (by decide +kernel) rfl rfl (Nat.le_of_ble_eq_true rfl) dX5_write_58 (fun H locs hP hD hS => ?_)
      have hP : va_P D vwCl [(h_m, .inr (5, [.int w4, .int nd, .int sw, .int so, .int lo, .ref a_one, .ref a_oth, .ref a_isb, .int cl, .int ea, .int on, .int lg, .ref a_log, .int (w5 + 1), .ref h_seq, .int pe, .ref a_mho, .ref a_mih, .ref a_far])), (h_seq, .inl (cI, 30, .inl (upd w6 w5.toNatClampNeg (((100 : Int32) * p0) + p1))))] H := hP
      have hD : va_D A [(h_m, .inr (5, [.int w4, .int nd, .int sw, .int so, .int lo, .ref a_one, .ref a_oth, .ref a_isb, .int cl, .int ea, .int on, .int lg, .ref a_log, .int (w5 + 1), .ref h_seq, .int pe, .ref a_mho, .ref a_mih, .ref a_far])), (h_seq, .inl (cI, 30, .inl (upd w6 w5.toNatClampNeg (((100 : Int32) * p0) + p1))))] := hD
      refine lv_aload_n hx hb dX5_write_61 rfl (lv_at hl 0 rfl) ?_
      refine va_get (D := D) (ci := 5) (v := .int (w5 + 1)) (C := RX5) (T := TX5) (N := 19) hx hb hts inX5_write_X5 hown hK hP 0 rfl rfl 13 (by decide) (hts _ lkX5_write_2) (fun _ h9 => h9) rfl dX5_write_62 ?_
      cases h
      rw [hQQ]
      exact W.iret hx hb hr (fun t ht hW => ⟨rfl, by rw [ht]; exact hP, hD, hS.F ht⟩) hS.2.2 dX5_write_65
    · have h := it_f h c9
      refine lv_iconst (v := 0) hx hb dX5_write_34 (by decide) ?_
      cases h
      rw [hQQ]
      exact W.iret hx hb hr (fun t ht hW => ⟨rfl, by rw [ht]; exact hP, hD, hS.F ht⟩) hS.2.2 dX5_write_35
  · refine lv_if_eq (tgt := 27) hx hb dX5_write_6 (by decide) (fun c11 => ?_) (fun c11 => ?_)
    · have h := it_t h c11
      exact hg27_8 w3 wr seq h H locs ls hP hD hS (lv_sub hl [0, 1, 2] rfl)
    · have h := it_f h c11
      refine lv_aload_n hx hb dX5_write_9 rfl (lv_at hl 0 rfl) ?_
      refine lv_aload_n hx hb dX5_write_10 rfl (lv_at hl 0 rfl) ?_
      refine va_get (D := D) (ci := 5) (v := .int wr) (C := RX5) (T := TX5) (N := 19) hx hb hts inX5_write_X5 hown hK hP 0 rfl rfl 13 (by decide) (hts _ lkX5_write_2) (fun _ h9 => h9) rfl dX5_write_11 ?_
      refine lv_bipush (v := 30) hx hb dX5_write_14 (by decide) ?_
      refine lv_icmp_ne (tgt := 23) hx hb dX5_write_16 (by decide) (fun c12 => ?_) (fun c12 => ?_)
      · have h := it_f h c12
        refine lv_iconst (v := 0) hx hb dX5_write_23 (by decide) ?_
        refine va_put (D := D) (ci := 5) (v := .int 0) (ty := .int) (C := RX5) (T := TX5) (N := 19) hx hb hts inX5_write_X5 tyX5 tyX5_ok nmX5 hown hK hP hD hS 0 rfl rfl 0 (by decide) (hts _ lkX5_write_0) (fun _ h9 => h9) rfl (by decide +kernel) rfl rfl (Nat.le_of_ble_eq_true rfl) dX5_write_24 (fun H locs hP hD hS => ?_)
        have hP : va_P D vwCl [(h_m, .inr (5, [.int 0, .int nd, .int sw, .int so, .int lo, .ref a_one, .ref a_oth, .ref a_isb, .int cl, .int ea, .int on, .int lg, .ref a_log, .int wr, .ref h_seq, .int pe, .ref a_mho, .ref a_mih, .ref a_far])), (h_seq, .inl (cI, 30, .inl seq))] H := hP
        have hD : va_D A [(h_m, .inr (5, [.int 0, .int nd, .int sw, .int so, .int lo, .ref a_one, .ref a_oth, .ref a_isb, .int cl, .int ea, .int on, .int lg, .ref a_log, .int wr, .ref h_seq, .int pe, .ref a_mho, .ref a_mih, .ref a_far])), (h_seq, .inl (cI, 30, .inl seq))] := hD
        exact hg27_8 0 wr seq h H locs ls hP hD hS (lv_sub hl [0, 1, 2] rfl)
      · have h := it_t h c12
        refine lv_iconst (v := 3) hx hb dX5_write_19 (by decide) ?_
        refine lv_goto (tgt := 24) hx hb dX5_write_20 (by decide) ?_
        refine va_put (D := D) (ci := 5) (v := .int 3) (ty := .int) (C := RX5) (T := TX5) (N := 19) hx hb hts inX5_write_X5 tyX5 tyX5_ok nmX5 hown hK hP hD hS 0 rfl rfl 0 (by decide) (hts _ lkX5_write_0) (fun _ h9 => h9) rfl (by decide +kernel) rfl rfl (Nat.le_of_ble_eq_true rfl) dX5_write_24 (fun H locs hP hD hS => ?_)
        have hP : va_P D vwCl [(h_m, .inr (5, [.int 3, .int nd, .int sw, .int so, .int lo, .ref a_one, .ref a_oth, .ref a_isb, .int cl, .int ea, .int on, .int lg, .ref a_log, .int wr, .ref h_seq, .int pe, .ref a_mho, .ref a_mih, .ref a_far])), (h_seq, .inl (cI, 30, .inl seq))] H := hP
        have hD : va_D A [(h_m, .inr (5, [.int 3, .int nd, .int sw, .int so, .int lo, .ref a_one, .ref a_oth, .ref a_isb, .int cl, .int ea, .int on, .int lg, .ref a_log, .int wr, .ref h_seq, .int pe, .ref a_mho, .ref a_mih, .ref a_far])), (h_seq, .inl (cI, 30, .inl seq))] := hD
        exact hg27_8 3 wr seq h H locs ls hP hD hS (lv_sub hl [0, 1, 2] rfl)

def fX5_erase (N : Nat) (th : Int32) (nd : Int32) (sw : Int32) (so : Int32) (lo : Int32) (cl : Int32) (ea : Int32) (on : Int32) (lg : Int32) (wr : Int32) (pe : Int32) : Option ((Int32) × (Int32) × (Int32)) :=
  some (wr, 0, 0)
set_option maxRecDepth 100000 in
theorem inX5_erase_X5 : ∀ w ∈ wsX50, w ∈ wsX5_erase := by decide +kernel
set_option maxRecDepth 100000 in
theorem lkX5_erase_0 : (.fieldLink RX5 35 "SwitchlogModel" "thrown" "I" : Cond) ∈ wsX5_erase := by decide +kernel
set_option maxRecDepth 100000 in
theorem lkX5_erase_1 : (.fieldLink RX5 137 "SwitchlogModel" "written" "I" : Cond) ∈ wsX5_erase := by decide +kernel
abbrev rmX5_erase : Room := { frames := 0, cells := 0, slots := 0, locals := 0 }
set_option maxHeartbeats 4000000 in
set_option maxRecDepth 100000 in
theorem kX5_erase (l : Launch) (D : va_G) (cI cZ cL : ClassId) (sz0 : Nat) (h_m a_one a_oth a_isb a_log a_seq a_mho a_mih a_far : Nat) (th : Int32) (nd : Int32) (sw : Int32) (so : Int32) (lo : Int32) (cl : Int32) (ea : Int32) (on : Int32) (lg : Int32) (wr : Int32) (pe : Int32)  (N : Nat) {r : Int32} {r_0 : Int32} {r_1 : Int32} (h : fX5_erase N th nd sw so lo cl ea on lg wr pe  = some (r, r_0, r_1)) : Met l yX5_erase wsX5_erase rmX5_erase (PM D cI cZ cL [.ref h_m] [(h_m, .inr (5, [.int th, .int nd, .int sw, .int so, .int lo, .ref a_one, .ref a_oth, .ref a_isb, .int cl, .int ea, .int on, .int lg, .ref a_log, .int wr, .ref a_seq, .int pe, .ref a_mho, .ref a_mih, .ref a_far]))] sz0) (QM D (some (.int r)) (va_A [(h_m, .inr (5, [.int th, .int nd, .int sw, .int so, .int lo, .ref a_one, .ref a_oth, .ref a_isb, .int cl, .int ea, .int on, .int lg, .ref a_log, .int wr, .ref a_seq, .int pe, .ref a_mho, .ref a_mih, .ref a_far]))] sz0) [(h_m, .inr (5, [.int r_0, .int nd, .int sw, .int so, .int lo, .ref a_one, .ref a_oth, .ref a_isb, .int cl, .int ea, .int on, .int lg, .ref a_log, .int r_1, .ref a_seq, .int pe, .ref a_mho, .ref a_mih, .ref a_far]))]) 0 0 (va_A [(h_m, .inr (5, [.int th, .int nd, .int sw, .int so, .int lo, .ref a_one, .ref a_oth, .ref a_isb, .int cl, .int ea, .int on, .int lg, .ref a_log, .int wr, .ref a_seq, .int pe, .ref a_mho, .ref a_mih, .ref a_far]))] sz0) := by
  refine Met.ofW (cc := cX5_erase) (maxL := 2) (ret := (some .int)) (by decide) rfl ?_
  intro p e s m args below meth c s₁ B hml hv
  obtain ⟨rfl, hsz, hP, hKK, hD0⟩ := hv
  have hK := hKK.1
  have hx := B.exec
  have hb := B.bytes
  have hr := B.returns
  have hts := atoms_spec (ws := wsX5_erase) B.pre
  have hown : s.vm.findClass RX5 = some m.cls := findClass_of_methodNamed B.named
  have hlocks := B.notSynchronized
  subst hsz
  have hD := hD0.self (sz := s.heap.size)
  generalize hAe : va_A [(h_m, .inr (5, [.int th, .int nd, .int sw, .int so, .int lo, .ref a_one, .ref a_oth, .ref a_isb, .int cl, .int ea, .int on, .int lg, .ref a_log, .int wr, .ref a_seq, .int pe, .ref a_mho, .ref a_mih, .ref a_far]))] s.heap.size = A at hD ⊢
  have hA : ∀ q : Nat, s.heap.size ≤ q → A q := fun q h => by rw [← hAe]; exact Or.inr h
  have hS : va_S A s.heap s.heap [] := va_S.rf
  have hl := lv_entry ([.ref h_m]) (n := 2) (Nat.le_of_ble_eq_true rfl)
  rw [lg_entry_eq]
  generalize (lg_sl ([.ref h_m]) ++ List.replicate (2 - (lg_sl ([.ref h_m])).length) Slot.unset).toArray = ls at hl ⊢
  have hl : lv_has ls 2 [(0, .ref h_m)] := hl
  obtain ⟨QQ, hQQ⟩ : ∃ Z, Z = MQ below (QM D (some (.int r)) A [(h_m, .inr (5, [.int r_0, .int nd, .int sw, .int so, .int lo, .ref a_one, .ref a_oth, .ref a_isb, .int cl, .int ea, .int on, .int lg, .ref a_log, .int r_1, .ref a_seq, .int pe, .ref a_mho, .ref a_mih, .ref a_far]))]) ([.ref h_m] : List Value).toArray s 0 0 A := ⟨_, rfl⟩
  rw [← hQQ]
  obtain ⟨H, locs, hHe, hLe⟩ : ∃ (H : Heap) (locs : List Loc), H = s.heap ∧ locs = [] := ⟨_, _, rfl, rfl⟩
  have hP : va_P D vwCl [(h_m, .inr (5, [.int th, .int nd, .int sw, .int so, .int lo, .ref a_one, .ref a_oth, .ref a_isb, .int cl, .int ea, .int on, .int lg, .ref a_log, .int wr, .ref a_seq, .int pe, .ref a_mho, .ref a_mih, .ref a_far]))] H := by rw [hHe]; exact hP
  have hS : va_S A s.heap H locs := by rw [hHe, hLe]; exact hS
  have hW0 : ∀ QQ : State → Prop, W p l e (headSpec wsX5_erase rmX5_erase).room s m (([.ref h_m] : List Value).toArray) below meth c H locs 0 0 QQ (F0 m 0 ls []) → W p l e (headSpec wsX5_erase rmX5_erase).room s m (([.ref h_m] : List Value).toArray) below meth c s.heap [] 0 0 QQ (F0 m 0 ls []) := by rw [hHe, hLe]; exact fun _ h => h
  refine hW0 _ ?_
  clear hW0
  unfold fX5_erase at h
  refine lv_aload_n hx hb dX5_erase_0 rfl (lv_at hl 0 rfl) ?_
  refine lv_iconst (v := 0) hx hb dX5_erase_1 (by decide) ?_
  refine va_put (D := D) (ci := 5) (v := .int 0) (ty := .int) (C := RX5) (T := TX5) (N := 19) hx hb hts inX5_erase_X5 tyX5 tyX5_ok nmX5 hown hK hP hD hS 0 rfl rfl 0 (by decide) (hts _ lkX5_erase_0) (fun _ h9 => h9) rfl (by decide +kernel) rfl rfl (Nat.le_of_ble_eq_true rfl) dX5_erase_2 (fun H locs hP hD hS => ?_)
  have hP : va_P D vwCl [(h_m, .inr (5, [.int 0, .int nd, .int sw, .int so, .int lo, .ref a_one, .ref a_oth, .ref a_isb, .int cl, .int ea, .int on, .int lg, .ref a_log, .int wr, .ref a_seq, .int pe, .ref a_mho, .ref a_mih, .ref a_far]))] H := hP
  have hD : va_D A [(h_m, .inr (5, [.int 0, .int nd, .int sw, .int so, .int lo, .ref a_one, .ref a_oth, .ref a_isb, .int cl, .int ea, .int on, .int lg, .ref a_log, .int wr, .ref a_seq, .int pe, .ref a_mho, .ref a_mih, .ref a_far]))] := hD
  refine lv_aload_n hx hb dX5_erase_5 rfl (lv_at hl 0 rfl) ?_
  refine va_get (D := D) (ci := 5) (v := .int wr) (C := RX5) (T := TX5) (N := 19) hx hb hts inX5_erase_X5 hown hK hP 0 rfl rfl 13 (by decide) (hts _ lkX5_erase_1) (fun _ h9 => h9) rfl dX5_erase_6 ?_
  refine lv_istore_n (lv' := [(1, .int wr), (0, .ref h_m)]) hx hb dX5_erase_9 rfl hl (by decide) rfl (fun ls hl => ?_)
  refine lv_aload_n hx hb dX5_erase_10 rfl (lv_at hl 1 rfl) ?_
  refine lv_iconst (v := 0) hx hb dX5_erase_11 (by decide) ?_
  refine va_put (D := D) (ci := 5) (v := .int 0) (ty := .int) (C := RX5) (T := TX5) (N := 19) hx hb hts inX5_erase_X5 tyX5 tyX5_ok nmX5 hown hK hP hD hS 0 rfl rfl 13 (by decide) (hts _ lkX5_erase_1) (fun _ h9 => h9) rfl (by decide +kernel) rfl rfl (Nat.le_of_ble_eq_true rfl) dX5_erase_12 (fun H locs hP hD hS => ?_)
  have hP : va_P D vwCl [(h_m, .inr (5, [.int 0, .int nd, .int sw, .int so, .int lo, .ref a_one, .ref a_oth, .ref a_isb, .int cl, .int ea, .int on, .int lg, .ref a_log, .int 0, .ref a_seq, .int pe, .ref a_mho, .ref a_mih, .ref a_far]))] H := hP
  have hD : va_D A [(h_m, .inr (5, [.int 0, .int nd, .int sw, .int so, .int lo, .ref a_one, .ref a_oth, .ref a_isb, .int cl, .int ea, .int on, .int lg, .ref a_log, .int 0, .ref a_seq, .int pe, .ref a_mho, .ref a_mih, .ref a_far]))] := hD
  refine lv_iload_n hx hb dX5_erase_15 rfl (lv_at hl 0 rfl) ?_
  cases h
  rw [hQQ]
  exact W.iret hx hb hr (fun t ht hW => ⟨rfl, by rw [ht]; exact hP, hD, hS.F ht⟩) hS.2.2 dX5_erase_16

def fX5_check (N : Nat) (th : Int32) (nd : Int32) (sw : Int32) (so : Int32) (lo : Int32) (cl : Int32) (ea : Int32) (on : Int32) (lg : Int32) (wr : Int32) (pe : Int32) (one : Nat → Int32) (oth : Nat → Int32) (isb : Nat → Int32) (seq : Nat → Int32) (mho : Nat → Int32) (mih : Nat → Int32) : Option ((Int32) × (Int32) × (Int32) × (Int32) × (Int32)) :=
  it5 (fun g23_6 (x1 : Int32) (w2 : Int32) (w3 : Int32) (w4 : Int32) (w5 : Int32) => jn5 (fun (x8 : Int32) (w9 : Int32) (w10 : Int32) (w11 : Int32) (w12 : Int32) => some (x8, w9, cl, ea, on)) (fun g89_13 => (if wr ≤ x1 then g89_13 x1 w2 w3 w4 w5 else gin x1 30 (gin x1 30 (bd4 (fX5_why N w2 nd sw so lo w3 w4 w5 lg wr pe one oth isb mho mih ((seq x1.toNatClampNeg) / 100) ((seq x1.toNatClampNeg) - (seq x1.toNatClampNeg) / 100 * 100)) (fun v19 w20 w21 w22 => (if v19 = 0 then gin x1 30 (gin x1 30 (bd3 (fX5_does N w2 nd sw so lo w20 w21 w22 lg wr pe ((seq x1.toNatClampNeg) / 100) ((seq x1.toNatClampNeg) - (seq x1.toNatClampNeg) / 100 * 100)) (fun w27 w28 w29 => g23_6 (x1 + 1) w2 w27 w28 w29))) else g89_13 x1 w2 w20 w21 w22))))))) N 0 0 cl ea on
set_option maxRecDepth 100000 in
theorem inX5_check_X5 : ∀ w ∈ wsX50, w ∈ wsX5_check := by decide +kernel
set_option maxRecDepth 100000 in
theorem lkX5_check_0 : (.fieldLink RX5 35 "SwitchlogModel" "thrown" "I" : Cond) ∈ wsX5_check := by decide +kernel
set_option maxRecDepth 100000 in
theorem lkX5_check_1 : (.fieldLink RX5 76 "SwitchlogModel" "closed" "I" : Cond) ∈ wsX5_check := by decide +kernel
set_option maxRecDepth 100000 in
theorem lkX5_check_2 : (.fieldLink RX5 79 "SwitchlogModel" "earths" "I" : Cond) ∈ wsX5_check := by decide +kernel
set_option maxRecDepth 100000 in
theorem lkX5_check_3 : (.fieldLink RX5 67 "SwitchlogModel" "on" "I" : Cond) ∈ wsX5_check := by decide +kernel
set_option maxRecDepth 100000 in
theorem lkX5_check_4 : (.fieldLink RX5 137 "SwitchlogModel" "written" "I" : Cond) ∈ wsX5_check := by decide +kernel
set_option maxRecDepth 100000 in
theorem lkX5_check_5 : (.fieldLink RX5 23 "SwitchlogModel" "sequence" "[I" : Cond) ∈ wsX5_check := by decide +kernel
abbrev rmX5_check : Room := { frames := 7, cells := 0, slots := 0, locals := 161 }
set_option maxHeartbeats 4000000 in
set_option maxRecDepth 100000 in
theorem kX5_check (l : Launch) (D : va_G) (cI cZ cL : ClassId) (sz0 : Nat) (h_m a_log a_far h_one h_oth h_isb h_seq h_mho h_mih : Nat) (th : Int32) (nd : Int32) (sw : Int32) (so : Int32) (lo : Int32) (cl : Int32) (ea : Int32) (on : Int32) (lg : Int32) (wr : Int32) (pe : Int32) (one : Nat → Int32) (oth : Nat → Int32) (isb : Nat → Int32) (seq : Nat → Int32) (mho : Nat → Int32) (mih : Nat → Int32)  (N : Nat) {r : Int32} {r_0 : Int32} {r_1 : Int32} {r_2 : Int32} {r_3 : Int32} (h : fX5_check N th nd sw so lo cl ea on lg wr pe one oth isb seq mho mih  = some (r, r_0, r_1, r_2, r_3)) : Met l yX5_check wsX5_check rmX5_check (PM D cI cZ cL [.ref h_m] [(h_m, .inr (5, [.int th, .int nd, .int sw, .int so, .int lo, .ref h_one, .ref h_oth, .ref h_isb, .int cl, .int ea, .int on, .int lg, .ref a_log, .int wr, .ref h_seq, .int pe, .ref h_mho, .ref h_mih, .ref a_far])), (h_one, .inl (cI, 24, .inl one)), (h_oth, .inl (cI, 24, .inl oth)), (h_isb, .inl (cZ, 24, .inl isb)), (h_seq, .inl (cI, 30, .inl seq)), (h_mho, .inl (cI, 10, .inl mho)), (h_mih, .inl (cZ, 10, .inl mih))] sz0) (QM D (some (.int r)) (va_A [(h_m, .inr (5, [.int th, .int nd, .int sw, .int so, .int lo, .ref h_one, .ref h_oth, .ref h_isb, .int cl, .int ea, .int on, .int lg, .ref a_log, .int wr, .ref h_seq, .int pe, .ref h_mho, .ref h_mih, .ref a_far])), (h_one, .inl (cI, 24, .inl one)), (h_oth, .inl (cI, 24, .inl oth)), (h_isb, .inl (cZ, 24, .inl isb)), (h_seq, .inl (cI, 30, .inl seq)), (h_mho, .inl (cI, 10, .inl mho)), (h_mih, .inl (cZ, 10, .inl mih))] sz0) [(h_m, .inr (5, [.int r_0, .int nd, .int sw, .int so, .int lo, .ref h_one, .ref h_oth, .ref h_isb, .int r_1, .int r_2, .int r_3, .int lg, .ref a_log, .int wr, .ref h_seq, .int pe, .ref h_mho, .ref h_mih, .ref a_far])), (h_one, .inl (cI, 24, .inl one)), (h_oth, .inl (cI, 24, .inl oth)), (h_isb, .inl (cZ, 24, .inl isb)), (h_seq, .inl (cI, 30, .inl seq)), (h_mho, .inl (cI, 10, .inl mho)), (h_mih, .inl (cZ, 10, .inl mih))]) 0 0 (va_A [(h_m, .inr (5, [.int th, .int nd, .int sw, .int so, .int lo, .ref h_one, .ref h_oth, .ref h_isb, .int cl, .int ea, .int on, .int lg, .ref a_log, .int wr, .ref h_seq, .int pe, .ref h_mho, .ref h_mih, .ref a_far])), (h_one, .inl (cI, 24, .inl one)), (h_oth, .inl (cI, 24, .inl oth)), (h_isb, .inl (cZ, 24, .inl isb)), (h_seq, .inl (cI, 30, .inl seq)), (h_mho, .inl (cI, 10, .inl mho)), (h_mih, .inl (cZ, 10, .inl mih))] sz0) := by
  refine Met.ofW (cc := cX5_check) (maxL := 5) (ret := (some .int)) (by decide) rfl ?_
  intro p e s m args below meth c s₁ B hml hv
  obtain ⟨rfl, hsz, hP, hKK, hD0⟩ := hv
  have hK := hKK.1
  have hx := B.exec
  have hb := B.bytes
  have hr := B.returns
  have hts := atoms_spec (ws := wsX5_check) B.pre
  have hown : s.vm.findClass RX5 = some m.cls := findClass_of_methodNamed B.named
  have hlocks := B.notSynchronized
  subst hsz
  have hD := hD0.self (sz := s.heap.size)
  generalize hAe : va_A [(h_m, .inr (5, [.int th, .int nd, .int sw, .int so, .int lo, .ref h_one, .ref h_oth, .ref h_isb, .int cl, .int ea, .int on, .int lg, .ref a_log, .int wr, .ref h_seq, .int pe, .ref h_mho, .ref h_mih, .ref a_far])), (h_one, .inl (cI, 24, .inl one)), (h_oth, .inl (cI, 24, .inl oth)), (h_isb, .inl (cZ, 24, .inl isb)), (h_seq, .inl (cI, 30, .inl seq)), (h_mho, .inl (cI, 10, .inl mho)), (h_mih, .inl (cZ, 10, .inl mih))] s.heap.size = A at hD ⊢
  have hA : ∀ q : Nat, s.heap.size ≤ q → A q := fun q h => by rw [← hAe]; exact Or.inr h
  have hS : va_S A s.heap s.heap [] := va_S.rf
  have hl := lv_entry ([.ref h_m]) (n := 5) (Nat.le_of_ble_eq_true rfl)
  rw [lg_entry_eq]
  generalize (lg_sl ([.ref h_m]) ++ List.replicate (5 - (lg_sl ([.ref h_m])).length) Slot.unset).toArray = ls at hl ⊢
  have hl : lv_has ls 5 [(0, .ref h_m)] := hl
  obtain ⟨QQ, hQQ⟩ : ∃ Z, Z = MQ below (QM D (some (.int r)) A [(h_m, .inr (5, [.int r_0, .int nd, .int sw, .int so, .int lo, .ref h_one, .ref h_oth, .ref h_isb, .int r_1, .int r_2, .int r_3, .int lg, .ref a_log, .int wr, .ref h_seq, .int pe, .ref h_mho, .ref h_mih, .ref a_far])), (h_one, .inl (cI, 24, .inl one)), (h_oth, .inl (cI, 24, .inl oth)), (h_isb, .inl (cZ, 24, .inl isb)), (h_seq, .inl (cI, 30, .inl seq)), (h_mho, .inl (cI, 10, .inl mho)), (h_mih, .inl (cZ, 10, .inl mih))]) ([.ref h_m] : List Value).toArray s 0 0 A := ⟨_, rfl⟩
  rw [← hQQ]
  obtain ⟨H, locs, hHe, hLe⟩ : ∃ (H : Heap) (locs : List Loc), H = s.heap ∧ locs = [] := ⟨_, _, rfl, rfl⟩
  have hP : va_P D vwCl [(h_m, .inr (5, [.int th, .int nd, .int sw, .int so, .int lo, .ref h_one, .ref h_oth, .ref h_isb, .int cl, .int ea, .int on, .int lg, .ref a_log, .int wr, .ref h_seq, .int pe, .ref h_mho, .ref h_mih, .ref a_far])), (h_one, .inl (cI, 24, .inl one)), (h_oth, .inl (cI, 24, .inl oth)), (h_isb, .inl (cZ, 24, .inl isb)), (h_seq, .inl (cI, 30, .inl seq)), (h_mho, .inl (cI, 10, .inl mho)), (h_mih, .inl (cZ, 10, .inl mih))] H := by rw [hHe]; exact hP
  have hS : va_S A s.heap H locs := by rw [hHe, hLe]; exact hS
  have hW0 : ∀ QQ : State → Prop, W p l e (headSpec wsX5_check rmX5_check).room s m (([.ref h_m] : List Value).toArray) below meth c H locs 0 0 QQ (F0 m 0 ls []) → W p l e (headSpec wsX5_check rmX5_check).room s m (([.ref h_m] : List Value).toArray) below meth c s.heap [] 0 0 QQ (F0 m 0 ls []) := by rw [hHe, hLe]; exact fun _ h => h
  refine hW0 _ ?_
  clear hW0
  unfold fX5_check at h
  refine lv_aload_n hx hb dX5_check_0 rfl (lv_at hl 0 rfl) ?_
  refine lv_iconst (v := 0) hx hb dX5_check_1 (by decide) ?_
  refine va_put (D := D) (ci := 5) (v := .int 0) (ty := .int) (C := RX5) (T := TX5) (N := 19) hx hb hts inX5_check_X5 tyX5 tyX5_ok nmX5 hown hK hP hD hS 0 rfl rfl 0 (by decide) (hts _ lkX5_check_0) (fun _ h9 => h9) rfl (by decide +kernel) rfl rfl (Nat.le_of_ble_eq_true rfl) dX5_check_2 (fun H locs hP hD hS => ?_)
  have hP : va_P D vwCl [(h_m, .inr (5, [.int 0, .int nd, .int sw, .int so, .int lo, .ref h_one, .ref h_oth, .ref h_isb, .int cl, .int ea, .int on, .int lg, .ref a_log, .int wr, .ref h_seq, .int pe, .ref h_mho, .ref h_mih, .ref a_far])), (h_one, .inl (cI, 24, .inl one)), (h_oth, .inl (cI, 24, .inl oth)), (h_isb, .inl (cZ, 24, .inl isb)), (h_seq, .inl (cI, 30, .inl seq)), (h_mho, .inl (cI, 10, .inl mho)), (h_mih, .inl (cZ, 10, .inl mih))] H := hP
  have hD : va_D A [(h_m, .inr (5, [.int 0, .int nd, .int sw, .int so, .int lo, .ref h_one, .ref h_oth, .ref h_isb, .int cl, .int ea, .int on, .int lg, .ref a_log, .int wr, .ref h_seq, .int pe, .ref h_mho, .ref h_mih, .ref a_far])), (h_one, .inl (cI, 24, .inl one)), (h_oth, .inl (cI, 24, .inl oth)), (h_isb, .inl (cZ, 24, .inl isb)), (h_seq, .inl (cI, 30, .inl seq)), (h_mho, .inl (cI, 10, .inl mho)), (h_mih, .inl (cZ, 10, .inl mih))] := hD
  refine lv_aload_n hx hb dX5_check_5 rfl (lv_at hl 0 rfl) ?_
  refine va_get (D := D) (ci := 5) (v := .int cl) (C := RX5) (T := TX5) (N := 19) hx hb hts inX5_check_X5 hown hK hP 0 rfl rfl 8 (by decide) (hts _ lkX5_check_1) (fun _ h9 => h9) rfl dX5_check_6 ?_
  refine lv_istore_n (lv' := [(1, .int cl), (0, .ref h_m)]) hx hb dX5_check_9 rfl hl (by decide) rfl (fun ls hl => ?_)
  refine lv_aload_n hx hb dX5_check_10 rfl (lv_at hl 1 rfl) ?_
  refine va_get (D := D) (ci := 5) (v := .int ea) (C := RX5) (T := TX5) (N := 19) hx hb hts inX5_check_X5 hown hK hP 0 rfl rfl 9 (by decide) (hts _ lkX5_check_2) (fun _ h9 => h9) rfl dX5_check_11 ?_
  refine lv_istore_n (lv' := [(2, .int ea), (1, .int cl), (0, .ref h_m)]) hx hb dX5_check_14 rfl hl (by decide) rfl (fun ls hl => ?_)
  refine lv_aload_n hx hb dX5_check_15 rfl (lv_at hl 2 rfl) ?_
  refine va_get (D := D) (ci := 5) (v := .int on) (C := RX5) (T := TX5) (N := 19) hx hb hts inX5_check_X5 hown hK hP 0 rfl rfl 10 (by decide) (hts _ lkX5_check_3) (fun _ h9 => h9) rfl dX5_check_16 ?_
  refine lv_istore_n (lv' := [(3, .int on), (2, .int ea), (1, .int cl), (0, .ref h_m)]) hx hb dX5_check_19 rfl hl (by decide) rfl (fun ls hl => ?_)
  refine lv_iconst (v := 0) hx hb dX5_check_20 (by decide) ?_
  refine lv_istore (lv' := [(4, .int 0), (3, .int on), (2, .int ea), (1, .int cl), (0, .ref h_m)]) hx hb dX5_check_21 hl (by decide) rfl (fun ls hl => ?_)
  refine it5_e (fun (x1 : Int32) (w2 : Int32) (w3 : Int32) (w4 : Int32) (w5 : Int32) => ∀ (H : Heap) (locs : List Loc) (ls : Array Slot), va_P D vwCl [(h_m, .inr (5, [.int w2, .int nd, .int sw, .int so, .int lo, .ref h_one, .ref h_oth, .ref h_isb, .int w3, .int w4, .int w5, .int lg, .ref a_log, .int wr, .ref h_seq, .int pe, .ref h_mho, .ref h_mih, .ref a_far])), (h_one, .inl (cI, 24, .inl one)), (h_oth, .inl (cI, 24, .inl oth)), (h_isb, .inl (cZ, 24, .inl isb)), (h_seq, .inl (cI, 30, .inl seq)), (h_mho, .inl (cI, 10, .inl mho)), (h_mih, .inl (cZ, 10, .inl mih))] H → va_D A [(h_m, .inr (5, [.int w2, .int nd, .int sw, .int so, .int lo, .ref h_one, .ref h_oth, .ref h_isb, .int w3, .int w4, .int w5, .int lg, .ref a_log, .int wr, .ref h_seq, .int pe, .ref h_mho, .ref h_mih, .ref a_far])), (h_one, .inl (cI, 24, .inl one)), (h_oth, .inl (cI, 24, .inl oth)), (h_isb, .inl (cZ, 24, .inl isb)), (h_seq, .inl (cI, 30, .inl seq)), (h_mho, .inl (cI, 10, .inl mho)), (h_mih, .inl (cZ, 10, .inl mih))] → va_S A s.heap H locs → lv_has ls 5 [(4, .int x1), (3, .int on), (2, .int ea), (1, .int cl), (0, .ref h_m)] → W p l e (headSpec wsX5_check rmX5_check).room s m (([.ref h_m] : List Value).toArray) below meth c H locs 0 0 QQ (F0 m 23 ls [])) (fun g23_6 hg23_7 x1 w2 w3 w4 w5 h H locs ls hP hD hS hl => ?_) N 0 0 cl ea on h H locs ls hP hD hS (lv_sub hl [0, 1, 2, 3, 4] rfl)
  refine lv_iload hx hb dX5_check_23 (lv_at hl 0 rfl) ?_
  refine lv_aload_n hx hb dX5_check_25 rfl (lv_at hl 4 rfl) ?_
  refine va_get (D := D) (ci := 5) (v := .int wr) (C := RX5) (T := TX5) (N := 19) hx hb hts inX5_check_X5 hown hK hP 0 rfl rfl 13 (by decide) (hts _ lkX5_check_4) (fun _ h9 => h9) rfl dX5_check_26 ?_
  refine jn5_e (fun (x8 : Int32) (w9 : Int32) (w10 : Int32) (w11 : Int32) (w12 : Int32) => ∀ (H : Heap) (locs : List Loc) (ls : Array Slot), va_P D vwCl [(h_m, .inr (5, [.int w9, .int nd, .int sw, .int so, .int lo, .ref h_one, .ref h_oth, .ref h_isb, .int w10, .int w11, .int w12, .int lg, .ref a_log, .int wr, .ref h_seq, .int pe, .ref h_mho, .ref h_mih, .ref a_far])), (h_one, .inl (cI, 24, .inl one)), (h_oth, .inl (cI, 24, .inl oth)), (h_isb, .inl (cZ, 24, .inl isb)), (h_seq, .inl (cI, 30, .inl seq)), (h_mho, .inl (cI, 10, .inl mho)), (h_mih, .inl (cZ, 10, .inl mih))] H → va_D A [(h_m, .inr (5, [.int w9, .int nd, .int sw, .int so, .int lo, .ref h_one, .ref h_oth, .ref h_isb, .int w10, .int w11, .int w12, .int lg, .ref a_log, .int wr, .ref h_seq, .int pe, .ref h_mho, .ref h_mih, .ref a_far])), (h_one, .inl (cI, 24, .inl one)), (h_oth, .inl (cI, 24, .inl oth)), (h_isb, .inl (cZ, 24, .inl isb)), (h_seq, .inl (cI, 30, .inl seq)), (h_mho, .inl (cI, 10, .inl mho)), (h_mih, .inl (cZ, 10, .inl mih))] → va_S A s.heap H locs → lv_has ls 5 [(4, .int x8), (3, .int on), (2, .int ea), (1, .int cl), (0, .ref h_m)] → W p l e (headSpec wsX5_check rmX5_check).room s m (([.ref h_m] : List Value).toArray) below meth c H locs 0 0 QQ (F0 m 89 ls [])) h (fun x8 w9 w10 w11 w12 h H locs ls hP hD hS hl => ?_) (fun g89_13 hg89_14 h => ?_)
  · refine lv_aload_n hx hb dX5_check_89 rfl (lv_at hl 4 rfl) ?_
    refine lv_iload_n hx hb dX5_check_90 rfl (lv_at hl 3 rfl) ?_
    refine va_put (D := D) (ci := 5) (v := .int cl) (ty := .int) (C := RX5) (T := TX5) (N := 19) hx hb hts inX5_check_X5 tyX5 tyX5_ok nmX5 hown hK hP hD hS 0 rfl rfl 8 (by decide) (hts _ lkX5_check_1) (fun _ h9 => h9) rfl (by decide +kernel) rfl rfl (Nat.le_of_ble_eq_true rfl) dX5_check_91 (fun H locs hP hD hS => ?_)
    have hP : va_P D vwCl [(h_m, .inr (5, [.int w9, .int nd, .int sw, .int so, .int lo, .ref h_one, .ref h_oth, .ref h_isb, .int cl, .int w11, .int w12, .int lg, .ref a_log, .int wr, .ref h_seq, .int pe, .ref h_mho, .ref h_mih, .ref a_far])), (h_one, .inl (cI, 24, .inl one)), (h_oth, .inl (cI, 24, .inl oth)), (h_isb, .inl (cZ, 24, .inl isb)), (h_seq, .inl (cI, 30, .inl seq)), (h_mho, .inl (cI, 10, .inl mho)), (h_mih, .inl (cZ, 10, .inl mih))] H := hP
    have hD : va_D A [(h_m, .inr (5, [.int w9, .int nd, .int sw, .int so, .int lo, .ref h_one, .ref h_oth, .ref h_isb, .int cl, .int w11, .int w12, .int lg, .ref a_log, .int wr, .ref h_seq, .int pe, .ref h_mho, .ref h_mih, .ref a_far])), (h_one, .inl (cI, 24, .inl one)), (h_oth, .inl (cI, 24, .inl oth)), (h_isb, .inl (cZ, 24, .inl isb)), (h_seq, .inl (cI, 30, .inl seq)), (h_mho, .inl (cI, 10, .inl mho)), (h_mih, .inl (cZ, 10, .inl mih))] := hD
    refine lv_aload_n hx hb dX5_check_94 rfl (lv_at hl 4 rfl) ?_
    refine lv_iload_n hx hb dX5_check_95 rfl (lv_at hl 2 rfl) ?_
    refine va_put (D := D) (ci := 5) (v := .int ea) (ty := .int) (C := RX5) (T := TX5) (N := 19) hx hb hts inX5_check_X5 tyX5 tyX5_ok nmX5 hown hK hP hD hS 0 rfl rfl 9 (by decide) (hts _ lkX5_check_2) (fun _ h9 => h9) rfl (by decide +kernel) rfl rfl (Nat.le_of_ble_eq_true rfl) dX5_check_96 (fun H locs hP hD hS => ?_)
    have hP : va_P D vwCl [(h_m, .inr (5, [.int w9, .int nd, .int sw, .int so, .int lo, .ref h_one, .ref h_oth, .ref h_isb, .int cl, .int ea, .int w12, .int lg, .ref a_log, .int wr, .ref h_seq, .int pe, .ref h_mho, .ref h_mih, .ref a_far])), (h_one, .inl (cI, 24, .inl one)), (h_oth, .inl (cI, 24, .inl oth)), (h_isb, .inl (cZ, 24, .inl isb)), (h_seq, .inl (cI, 30, .inl seq)), (h_mho, .inl (cI, 10, .inl mho)), (h_mih, .inl (cZ, 10, .inl mih))] H := hP
    have hD : va_D A [(h_m, .inr (5, [.int w9, .int nd, .int sw, .int so, .int lo, .ref h_one, .ref h_oth, .ref h_isb, .int cl, .int ea, .int w12, .int lg, .ref a_log, .int wr, .ref h_seq, .int pe, .ref h_mho, .ref h_mih, .ref a_far])), (h_one, .inl (cI, 24, .inl one)), (h_oth, .inl (cI, 24, .inl oth)), (h_isb, .inl (cZ, 24, .inl isb)), (h_seq, .inl (cI, 30, .inl seq)), (h_mho, .inl (cI, 10, .inl mho)), (h_mih, .inl (cZ, 10, .inl mih))] := hD
    refine lv_aload_n hx hb dX5_check_99 rfl (lv_at hl 4 rfl) ?_
    refine lv_iload_n hx hb dX5_check_100 rfl (lv_at hl 1 rfl) ?_
    refine va_put (D := D) (ci := 5) (v := .int on) (ty := .int) (C := RX5) (T := TX5) (N := 19) hx hb hts inX5_check_X5 tyX5 tyX5_ok nmX5 hown hK hP hD hS 0 rfl rfl 10 (by decide) (hts _ lkX5_check_3) (fun _ h9 => h9) rfl (by decide +kernel) rfl rfl (Nat.le_of_ble_eq_true rfl) dX5_check_101 (fun H locs hP hD hS => ?_)
    have hP : va_P D vwCl [(h_m, .inr (5, [.int w9, .int nd, .int sw, .int so, .int lo, .ref h_one, .ref h_oth, .ref h_isb, .int cl, .int ea, .int on, .int lg, .ref a_log, .int wr, .ref h_seq, .int pe, .ref h_mho, .ref h_mih, .ref a_far])), (h_one, .inl (cI, 24, .inl one)), (h_oth, .inl (cI, 24, .inl oth)), (h_isb, .inl (cZ, 24, .inl isb)), (h_seq, .inl (cI, 30, .inl seq)), (h_mho, .inl (cI, 10, .inl mho)), (h_mih, .inl (cZ, 10, .inl mih))] H := hP
    have hD : va_D A [(h_m, .inr (5, [.int w9, .int nd, .int sw, .int so, .int lo, .ref h_one, .ref h_oth, .ref h_isb, .int cl, .int ea, .int on, .int lg, .ref a_log, .int wr, .ref h_seq, .int pe, .ref h_mho, .ref h_mih, .ref a_far])), (h_one, .inl (cI, 24, .inl one)), (h_oth, .inl (cI, 24, .inl oth)), (h_isb, .inl (cZ, 24, .inl isb)), (h_seq, .inl (cI, 30, .inl seq)), (h_mho, .inl (cI, 10, .inl mho)), (h_mih, .inl (cZ, 10, .inl mih))] := hD
    refine lv_iload hx hb dX5_check_104 (lv_at hl 0 rfl) ?_
    cases h
    rw [hQQ]
    exact W.iret hx hb hr (fun t ht hW => ⟨rfl, by rw [ht]; exact hP, hD, hS.F ht⟩) hS.2.2 dX5_check_106
  · refine lv_icmp_ge (tgt := 89) hx hb dX5_check_29 (by decide) (fun c15 => ?_) (fun c15 => ?_)
    · have h := it_t h c15
      exact hg89_14 x1 w2 w3 w4 w5 h H locs ls hP hD hS (lv_sub hl [0, 1, 2, 3, 4] rfl)
    · have h := it_f h c15
      refine lv_aload_n hx hb dX5_check_32 rfl (lv_at hl 4 rfl) ?_
      refine lv_aload_n hx hb dX5_check_33 rfl (lv_at hl 4 rfl) ?_
      refine va_get (D := D) (ci := 5) (v := .ref h_seq) (C := RX5) (T := TX5) (N := 19) hx hb hts inX5_check_X5 hown hK hP 0 rfl rfl 14 (by decide) (hts _ lkX5_check_5) (fun _ h9 => h9) rfl dX5_check_34 ?_
      refine lv_iload hx hb dX5_check_37 (lv_at hl 0 rfl) ?_
      obtain ⟨hi16, h⟩ := gin_e h
      refine va_iald hx hb hK hP 4 0 rfl rfl hi16 dX5_check_39 ?_
      refine lv_bipush (v := 100) hx hb dX5_check_40 (by decide) ?_
      refine lv_idiv hx hb dX5_check_42 (by decide) ?_
      refine lv_aload_n hx hb dX5_check_43 rfl (lv_at hl 4 rfl) ?_
      refine va_get (D := D) (ci := 5) (v := .ref h_seq) (C := RX5) (T := TX5) (N := 19) hx hb hts inX5_check_X5 hown hK hP 0 rfl rfl 14 (by decide) (hts _ lkX5_check_5) (fun _ h9 => h9) rfl dX5_check_44 ?_
      refine lv_iload hx hb dX5_check_47 (lv_at hl 0 rfl) ?_
      obtain ⟨hi17, h⟩ := gin_e h
      refine va_iald hx hb hK hP 4 0 rfl rfl hi17 dX5_check_49 ?_
      refine lv_bipush (v := 100) hx hb dX5_check_50 (by decide) ?_
      refine lv_irem hx hb dX5_check_52 (by decide) ?_
      obtain ⟨v19, w20, w21, w22, hq18, h⟩ := bd4_e h
      refine zz_mV (As := [.int ((seq x1.toNatClampNeg) / 100), .int ((seq x1.toNatClampNeg) - (seq x1.toNatClampNeg) / 100 * 100)]) (wr := [(h_seq, .inl (cI, 30, .inl seq))]) (w1 := [(h_m, .inr (5, [.int w2, .int nd, .int sw, .int so, .int lo, .ref h_one, .ref h_oth, .ref h_isb, .int w20, .int w21, .int w22, .int lg, .ref a_log, .int wr, .ref h_seq, .int pe, .ref h_mho, .ref h_mih, .ref a_far])), (h_one, .inl (cI, 24, .inl one)), (h_oth, .inl (cI, 24, .inl oth)), (h_isb, .inl (cZ, 24, .inl isb)), (h_mho, .inl (cI, 10, .inl mho)), (h_mih, .inl (cZ, 10, .inl mih))]) (wt' := [(h_m, .inr (5, [.int w2, .int nd, .int sw, .int so, .int lo, .ref h_one, .ref h_oth, .ref h_isb, .int w20, .int w21, .int w22, .int lg, .ref a_log, .int wr, .ref h_seq, .int pe, .ref h_mho, .ref h_mih, .ref a_far])), (h_one, .inl (cI, 24, .inl one)), (h_oth, .inl (cI, 24, .inl oth)), (h_isb, .inl (cZ, 24, .inl isb)), (h_seq, .inl (cI, 30, .inl seq)), (h_mho, .inl (cI, 10, .inl mho)), (h_mih, .inl (cZ, 10, .inl mih))]) (wc := [(h_m, .inr (5, [.int w2, .int nd, .int sw, .int so, .int lo, .ref h_one, .ref h_oth, .ref h_isb, .int w3, .int w4, .int w5, .int lg, .ref a_log, .int wr, .ref h_seq, .int pe, .ref h_mho, .ref h_mih, .ref a_far])), (h_one, .inl (cI, 24, .inl one)), (h_oth, .inl (cI, 24, .inl oth)), (h_isb, .inl (cZ, 24, .inl isb)), (h_mho, .inl (cI, 10, .inl mho)), (h_mih, .inl (cZ, 10, .inl mih))]) (rv := (some (.int v19))) ⟨hx, hb, hml, hown, hts⟩ (kX5_why l D cI cZ cL H.size h_m a_log h_seq a_far h_one h_oth h_isb h_mho h_mih w2 nd sw so lo w3 w4 w5 lg wr pe one oth isb mho mih ((seq x1.toNatClampNeg) / 100) ((seq x1.toNatClampNeg) - (seq x1.toNatClampNeg) / 100 * 100) N hq18) (cwV 2 hts gX5_check_X5_why rfl rfl rfl (by decide +kernel) ⟨Nat.le_of_ble_eq_true rfl, Nat.le_of_ble_eq_true rfl⟩) hP hD hS hA hKK [0, 1, 2, 3, 5, 6] [4] [1, 2, 3, 4, 0, 5, 6] rfl rfl (by decide) (by decide) rfl (by decide) (by decide) (va_recv hK hP (ci := 5) (q0 := 0) rfl rfl) rfl hl.1 rfl (Nat.le_of_ble_eq_true rfl) dX5_check_53 ⟨Nat.le_of_ble_eq_true rfl, Nat.le_of_ble_eq_true rfl⟩ (fun H locs hP hD hS hz9 => ?_)
      show W p l e _ s m _ below meth c H locs _ _ QQ (F0 m 56 ls (.int v19 :: []))
      refine lv_if_ne (tgt := 89) hx hb dX5_check_56 (by decide) (fun c23 => ?_) (fun c23 => ?_)
      · have h := it_f h c23
        exact hg89_14 x1 w2 w20 w21 w22 h H locs ls hP hD hS (lv_sub hl [0, 1, 2, 3, 4] rfl)
      · have h := it_t h c23
        refine lv_aload_n hx hb dX5_check_59 rfl (lv_at hl 4 rfl) ?_
        refine lv_aload_n hx hb dX5_check_60 rfl (lv_at hl 4 rfl) ?_
        refine va_get (D := D) (ci := 5) (v := .ref h_seq) (C := RX5) (T := TX5) (N := 19) hx hb hts inX5_check_X5 hown hK hP 0 rfl rfl 14 (by decide) (hts _ lkX5_check_5) (fun _ h9 => h9) rfl dX5_check_61 ?_
        refine lv_iload hx hb dX5_check_64 (lv_at hl 0 rfl) ?_
        obtain ⟨hi24, h⟩ := gin_e h
        refine va_iald hx hb hK hP 4 0 rfl rfl hi24 dX5_check_66 ?_
        refine lv_bipush (v := 100) hx hb dX5_check_67 (by decide) ?_
        refine lv_idiv hx hb dX5_check_69 (by decide) ?_
        refine lv_aload_n hx hb dX5_check_70 rfl (lv_at hl 4 rfl) ?_
        refine va_get (D := D) (ci := 5) (v := .ref h_seq) (C := RX5) (T := TX5) (N := 19) hx hb hts inX5_check_X5 hown hK hP 0 rfl rfl 14 (by decide) (hts _ lkX5_check_5) (fun _ h9 => h9) rfl dX5_check_71 ?_
        refine lv_iload hx hb dX5_check_74 (lv_at hl 0 rfl) ?_
        obtain ⟨hi25, h⟩ := gin_e h
        refine va_iald hx hb hK hP 4 0 rfl rfl hi25 dX5_check_76 ?_
        refine lv_bipush (v := 100) hx hb dX5_check_77 (by decide) ?_
        refine lv_irem hx hb dX5_check_79 (by decide) ?_
        obtain ⟨w27, w28, w29, hq26, h⟩ := bd3_e h
        refine zz_mV (As := [.int ((seq x1.toNatClampNeg) / 100), .int ((seq x1.toNatClampNeg) - (seq x1.toNatClampNeg) / 100 * 100)]) (wr := [(h_one, .inl (cI, 24, .inl one)), (h_oth, .inl (cI, 24, .inl oth)), (h_isb, .inl (cZ, 24, .inl isb)), (h_seq, .inl (cI, 30, .inl seq)), (h_mho, .inl (cI, 10, .inl mho)), (h_mih, .inl (cZ, 10, .inl mih))]) (w1 := [(h_m, .inr (5, [.int w2, .int nd, .int sw, .int so, .int lo, .ref h_one, .ref h_oth, .ref h_isb, .int w27, .int w28, .int w29, .int lg, .ref a_log, .int wr, .ref h_seq, .int pe, .ref h_mho, .ref h_mih, .ref a_far]))]) (wt' := [(h_m, .inr (5, [.int w2, .int nd, .int sw, .int so, .int lo, .ref h_one, .ref h_oth, .ref h_isb, .int w27, .int w28, .int w29, .int lg, .ref a_log, .int wr, .ref h_seq, .int pe, .ref h_mho, .ref h_mih, .ref a_far])), (h_one, .inl (cI, 24, .inl one)), (h_oth, .inl (cI, 24, .inl oth)), (h_isb, .inl (cZ, 24, .inl isb)), (h_seq, .inl (cI, 30, .inl seq)), (h_mho, .inl (cI, 10, .inl mho)), (h_mih, .inl (cZ, 10, .inl mih))]) (wc := [(h_m, .inr (5, [.int w2, .int nd, .int sw, .int so, .int lo, .ref h_one, .ref h_oth, .ref h_isb, .int w20, .int w21, .int w22, .int lg, .ref a_log, .int wr, .ref h_seq, .int pe, .ref h_mho, .ref h_mih, .ref a_far]))]) (rv := none) ⟨hx, hb, hml, hown, hts⟩ (kX5_does l D cI cZ cL H.size h_m h_one h_oth h_isb a_log h_seq h_mho h_mih a_far w2 nd sw so lo w20 w21 w22 lg wr pe ((seq x1.toNatClampNeg) / 100) ((seq x1.toNatClampNeg) - (seq x1.toNatClampNeg) / 100 * 100) N hq26) (cwV 2 hts gX5_check_X5_does rfl rfl rfl (by decide +kernel) ⟨Nat.le_of_ble_eq_true rfl, Nat.le_of_ble_eq_true rfl⟩) hP hD hS hA hKK [0] [1, 2, 3, 4, 5, 6] [6, 0, 1, 2, 3, 4, 5] rfl rfl (by decide) (by decide) rfl (by decide) (by decide) (va_recv hK hP (ci := 5) (q0 := 0) rfl rfl) rfl hl.1 rfl (Nat.le_of_ble_eq_true rfl) dX5_check_80 ⟨Nat.le_of_ble_eq_true rfl, Nat.le_of_ble_eq_true rfl⟩ (fun H locs hP hD hS hz9 => ?_)
        show W p l e _ s m _ below meth c H locs _ _ QQ (F0 m 83 ls [])
        refine lv_iinc (v := x1 + 1) (lv' := [(4, .int (x1 + 1)), (3, .int on), (2, .int ea), (1, .int cl), (0, .ref h_m)]) hx hb dX5_check_83 hl (k := 0) rfl rfl (by decide) rfl (fun ls hl => ?_)
        refine lv_goto (tgt := 23) hx hb dX5_check_86 (by decide) ?_
        exact hg23_7 (x1 + 1) w2 w27 w28 w29 h H locs ls hP hD hS (lv_sub hl [0, 1, 2, 3, 4] rfl)

def fX5_carryOut (N : Nat) (th : Int32) (nd : Int32) (sw : Int32) (so : Int32) (lo : Int32) (cl : Int32) (ea : Int32) (on : Int32) (lg : Int32) (wr : Int32) (pe : Int32) (one : Nat → Int32) (oth : Nat → Int32) (isb : Nat → Int32) (log : Nat → Int32) (seq : Nat → Int32) (mho : Nat → Int32) (mih : Nat → Int32) (p0 : Int32) : Option ((Int32) × (Int32) × (Int32) × (Int32) × (Int32) × (Int32) × (Nat → Int32) × (Int32) × (Nat → Int32)) :=
  bd1 (fX5_in N  p0 1 30) (fun v1 => jn1 (fun (y3 : Int32) => it9 (fun g52_15 (x6 : Int32) (w7 : Int32) (w8 : Int32) (w9 : Int32) (w10 : Int32) (w11 : Int32) (w12 : Nat → Int32) (w13 : Int32) (w14 : Nat → Int32) => jn9 (fun (x17 : Int32) (w18 : Int32) (w19 : Int32) (w20 : Int32) (w21 : Int32) (w22 : Int32) (w23 : Nat → Int32) (w24 : Int32) (w25 : Nat → Int32) => it9 (fun g105_37 (x28 : Int32) (w29 : Int32) (w30 : Int32) (w31 : Int32) (w32 : Int32) (w33 : Int32) (w34 : Nat → Int32) (w35 : Int32) (w36 : Nat → Int32) => (if w35 ≤ x28 then some (x17, w29, w30, w31, w32, w33, w34, w35 - x17, w36) else gin x28 30 (gin (x28 - x17) 30 (g105_37 (x28 + 1) w29 w30 w31 w32 w33 w34 w35 (upd w36 (x28 - x17).toNatClampNeg (w36 x28.toNatClampNeg)))))) N x17 w18 w19 w20 w21 w22 w23 w24 w25) (fun g103_26 => (if w7 = 0 then (if p0 ≤ x6 then g103_26 x6 w7 w8 w9 w10 w11 w12 w13 w14 else (if w13 ≤ x6 then g103_26 x6 w7 w8 w9 w10 w11 w12 w13 w14 else gin x6 30 (gin x6 30 (bd6 (fX5_acts N w7 nd sw so lo w8 w9 w10 w11 w13 pe one oth isb w12 mho mih ((w14 x6.toNatClampNeg) / 100) ((w14 x6.toNatClampNeg) - (w14 x6.toNatClampNeg) / 100 * 100)) (fun v48 w49 w50 w51 w52 w53 => (if v48 = 0 then g52_15 (x6 + 1) w7 w49 w50 w51 w52 w53 w13 w14 else g103_26 x6 w7 w49 w50 w51 w52 w53 w13 w14)))))) else g103_26 x6 w7 w8 w9 w10 w11 w12 w13 w14))) N 0 y3 cl ea on lg log wr seq) (fun g47_4 => (if v1 = 0 then g47_4 1 else (if wr ≤ p0 then (if (lg + wr) ≤ 200 then g47_4 0 else g47_4 2) else (if (lg + p0) ≤ 200 then g47_4 0 else g47_4 2)))))
set_option maxRecDepth 100000 in
theorem inX5_carryOut_X5 : ∀ w ∈ wsX50, w ∈ wsX5_carryOut := by decide +kernel
set_option maxRecDepth 100000 in
theorem lkX5_carryOut_0 : (.fieldLink RX5 35 "SwitchlogModel" "thrown" "I" : Cond) ∈ wsX5_carryOut := by decide +kernel
set_option maxRecDepth 100000 in
theorem lkX5_carryOut_1 : (.fieldLink RX5 137 "SwitchlogModel" "written" "I" : Cond) ∈ wsX5_carryOut := by decide +kernel
set_option maxRecDepth 100000 in
theorem lkX5_carryOut_2 : (.fieldLink RX5 23 "SwitchlogModel" "sequence" "[I" : Cond) ∈ wsX5_carryOut := by decide +kernel
set_option maxRecDepth 100000 in
theorem lkX5_carryOut_3 : (.fieldLink RX5 124 "SwitchlogModel" "logged" "I" : Cond) ∈ wsX5_carryOut := by decide +kernel
abbrev rmX5_carryOut : Room := { frames := 8, cells := 0, slots := 0, locals := 184 }
set_option maxHeartbeats 4000000 in
set_option maxRecDepth 100000 in
theorem kX5_carryOut (l : Launch) (D : va_G) (cI cZ cL : ClassId) (sz0 : Nat) (h_m a_far h_one h_oth h_isb h_log h_seq h_mho h_mih : Nat) (th : Int32) (nd : Int32) (sw : Int32) (so : Int32) (lo : Int32) (cl : Int32) (ea : Int32) (on : Int32) (lg : Int32) (wr : Int32) (pe : Int32) (one : Nat → Int32) (oth : Nat → Int32) (isb : Nat → Int32) (log : Nat → Int32) (seq : Nat → Int32) (mho : Nat → Int32) (mih : Nat → Int32) (p0 : Int32) (N : Nat) {r : Int32} {r_0 : Int32} {r_1 : Int32} {r_2 : Int32} {r_3 : Int32} {r_4 : Int32} {r_5 : Nat → Int32} {r_6 : Int32} {r_7 : Nat → Int32} (h : fX5_carryOut N th nd sw so lo cl ea on lg wr pe one oth isb log seq mho mih p0 = some (r, r_0, r_1, r_2, r_3, r_4, r_5, r_6, r_7)) : Met l yX5_carryOut wsX5_carryOut rmX5_carryOut (PM D cI cZ cL [.ref h_m, .int p0] [(h_m, .inr (5, [.int th, .int nd, .int sw, .int so, .int lo, .ref h_one, .ref h_oth, .ref h_isb, .int cl, .int ea, .int on, .int lg, .ref h_log, .int wr, .ref h_seq, .int pe, .ref h_mho, .ref h_mih, .ref a_far])), (h_one, .inl (cI, 24, .inl one)), (h_oth, .inl (cI, 24, .inl oth)), (h_isb, .inl (cZ, 24, .inl isb)), (h_log, .inl (cI, 200, .inl log)), (h_seq, .inl (cI, 30, .inl seq)), (h_mho, .inl (cI, 10, .inl mho)), (h_mih, .inl (cZ, 10, .inl mih))] sz0) (QM D (some (.int r)) (va_A [(h_m, .inr (5, [.int th, .int nd, .int sw, .int so, .int lo, .ref h_one, .ref h_oth, .ref h_isb, .int cl, .int ea, .int on, .int lg, .ref h_log, .int wr, .ref h_seq, .int pe, .ref h_mho, .ref h_mih, .ref a_far])), (h_one, .inl (cI, 24, .inl one)), (h_oth, .inl (cI, 24, .inl oth)), (h_isb, .inl (cZ, 24, .inl isb)), (h_log, .inl (cI, 200, .inl log)), (h_seq, .inl (cI, 30, .inl seq)), (h_mho, .inl (cI, 10, .inl mho)), (h_mih, .inl (cZ, 10, .inl mih))] sz0) [(h_m, .inr (5, [.int r_0, .int nd, .int sw, .int so, .int lo, .ref h_one, .ref h_oth, .ref h_isb, .int r_1, .int r_2, .int r_3, .int r_4, .ref h_log, .int r_6, .ref h_seq, .int pe, .ref h_mho, .ref h_mih, .ref a_far])), (h_one, .inl (cI, 24, .inl one)), (h_oth, .inl (cI, 24, .inl oth)), (h_isb, .inl (cZ, 24, .inl isb)), (h_log, .inl (cI, 200, .inl r_5)), (h_seq, .inl (cI, 30, .inl r_7)), (h_mho, .inl (cI, 10, .inl mho)), (h_mih, .inl (cZ, 10, .inl mih))]) 0 0 (va_A [(h_m, .inr (5, [.int th, .int nd, .int sw, .int so, .int lo, .ref h_one, .ref h_oth, .ref h_isb, .int cl, .int ea, .int on, .int lg, .ref h_log, .int wr, .ref h_seq, .int pe, .ref h_mho, .ref h_mih, .ref a_far])), (h_one, .inl (cI, 24, .inl one)), (h_oth, .inl (cI, 24, .inl oth)), (h_isb, .inl (cZ, 24, .inl isb)), (h_log, .inl (cI, 200, .inl log)), (h_seq, .inl (cI, 30, .inl seq)), (h_mho, .inl (cI, 10, .inl mho)), (h_mih, .inl (cZ, 10, .inl mih))] sz0) := by
  refine Met.ofW (cc := cX5_carryOut) (maxL := 4) (ret := (some .int)) (by decide) rfl ?_
  intro p e s m args below meth c s₁ B hml hv
  obtain ⟨rfl, hsz, hP, hKK, hD0⟩ := hv
  have hK := hKK.1
  have hx := B.exec
  have hb := B.bytes
  have hr := B.returns
  have hts := atoms_spec (ws := wsX5_carryOut) B.pre
  have hown : s.vm.findClass RX5 = some m.cls := findClass_of_methodNamed B.named
  have hlocks := B.notSynchronized
  subst hsz
  have hD := hD0.self (sz := s.heap.size)
  generalize hAe : va_A [(h_m, .inr (5, [.int th, .int nd, .int sw, .int so, .int lo, .ref h_one, .ref h_oth, .ref h_isb, .int cl, .int ea, .int on, .int lg, .ref h_log, .int wr, .ref h_seq, .int pe, .ref h_mho, .ref h_mih, .ref a_far])), (h_one, .inl (cI, 24, .inl one)), (h_oth, .inl (cI, 24, .inl oth)), (h_isb, .inl (cZ, 24, .inl isb)), (h_log, .inl (cI, 200, .inl log)), (h_seq, .inl (cI, 30, .inl seq)), (h_mho, .inl (cI, 10, .inl mho)), (h_mih, .inl (cZ, 10, .inl mih))] s.heap.size = A at hD ⊢
  have hA : ∀ q : Nat, s.heap.size ≤ q → A q := fun q h => by rw [← hAe]; exact Or.inr h
  have hS : va_S A s.heap s.heap [] := va_S.rf
  have hl := lv_entry ([.ref h_m, .int p0]) (n := 4) (Nat.le_of_ble_eq_true rfl)
  rw [lg_entry_eq]
  generalize (lg_sl ([.ref h_m, .int p0]) ++ List.replicate (4 - (lg_sl ([.ref h_m, .int p0])).length) Slot.unset).toArray = ls at hl ⊢
  have hl : lv_has ls 4 [(0, .ref h_m), (1, .int p0)] := hl
  obtain ⟨QQ, hQQ⟩ : ∃ Z, Z = MQ below (QM D (some (.int r)) A [(h_m, .inr (5, [.int r_0, .int nd, .int sw, .int so, .int lo, .ref h_one, .ref h_oth, .ref h_isb, .int r_1, .int r_2, .int r_3, .int r_4, .ref h_log, .int r_6, .ref h_seq, .int pe, .ref h_mho, .ref h_mih, .ref a_far])), (h_one, .inl (cI, 24, .inl one)), (h_oth, .inl (cI, 24, .inl oth)), (h_isb, .inl (cZ, 24, .inl isb)), (h_log, .inl (cI, 200, .inl r_5)), (h_seq, .inl (cI, 30, .inl r_7)), (h_mho, .inl (cI, 10, .inl mho)), (h_mih, .inl (cZ, 10, .inl mih))]) ([.ref h_m, .int p0] : List Value).toArray s 0 0 A := ⟨_, rfl⟩
  rw [← hQQ]
  obtain ⟨H, locs, hHe, hLe⟩ : ∃ (H : Heap) (locs : List Loc), H = s.heap ∧ locs = [] := ⟨_, _, rfl, rfl⟩
  have hP : va_P D vwCl [(h_m, .inr (5, [.int th, .int nd, .int sw, .int so, .int lo, .ref h_one, .ref h_oth, .ref h_isb, .int cl, .int ea, .int on, .int lg, .ref h_log, .int wr, .ref h_seq, .int pe, .ref h_mho, .ref h_mih, .ref a_far])), (h_one, .inl (cI, 24, .inl one)), (h_oth, .inl (cI, 24, .inl oth)), (h_isb, .inl (cZ, 24, .inl isb)), (h_log, .inl (cI, 200, .inl log)), (h_seq, .inl (cI, 30, .inl seq)), (h_mho, .inl (cI, 10, .inl mho)), (h_mih, .inl (cZ, 10, .inl mih))] H := by rw [hHe]; exact hP
  have hS : va_S A s.heap H locs := by rw [hHe, hLe]; exact hS
  have hW0 : ∀ QQ : State → Prop, W p l e (headSpec wsX5_carryOut rmX5_carryOut).room s m (([.ref h_m, .int p0] : List Value).toArray) below meth c H locs 0 0 QQ (F0 m 0 ls []) → W p l e (headSpec wsX5_carryOut rmX5_carryOut).room s m (([.ref h_m, .int p0] : List Value).toArray) below meth c s.heap [] 0 0 QQ (F0 m 0 ls []) := by rw [hHe, hLe]; exact fun _ h => h
  refine hW0 _ ?_
  clear hW0
  unfold fX5_carryOut at h
  refine lv_aload_n hx hb dX5_carryOut_0 rfl (lv_at hl 0 rfl) ?_
  refine lv_iload_n hx hb dX5_carryOut_1 rfl (lv_at hl 1 rfl) ?_
  refine lv_iconst (v := 1) hx hb dX5_carryOut_2 (by decide) ?_
  refine lv_bipush (v := 30) hx hb dX5_carryOut_3 (by decide) ?_
  obtain ⟨v1, hq2, h⟩ := bd1_e h
  refine zz_cS (As := [.int p0, .int 1, .int 30]) ⟨hx, hb, hml, hown, hts⟩ (kX5_in l D cI cZ cL p0 1 30 N hq2) (va_cwS 3 hts gX5_carryOut_X5_in rfl rfl rfl (by decide +kernel) ⟨Nat.le_of_ble_eq_true rfl, Nat.le_of_ble_eq_true rfl⟩) (hP.sub (ws' := []) [] rfl) hKK rfl hl.1 rfl (Nat.le_of_ble_eq_true rfl) dX5_carryOut_5 ⟨Nat.le_of_ble_eq_true rfl, Nat.le_of_ble_eq_true rfl⟩ ?_
  refine jn1_e (fun (y3 : Int32) => ∀ (H : Heap) (locs : List Loc) (ls : Array Slot), va_P D vwCl [(h_m, .inr (5, [.int th, .int nd, .int sw, .int so, .int lo, .ref h_one, .ref h_oth, .ref h_isb, .int cl, .int ea, .int on, .int lg, .ref h_log, .int wr, .ref h_seq, .int pe, .ref h_mho, .ref h_mih, .ref a_far])), (h_one, .inl (cI, 24, .inl one)), (h_oth, .inl (cI, 24, .inl oth)), (h_isb, .inl (cZ, 24, .inl isb)), (h_log, .inl (cI, 200, .inl log)), (h_seq, .inl (cI, 30, .inl seq)), (h_mho, .inl (cI, 10, .inl mho)), (h_mih, .inl (cZ, 10, .inl mih))] H → va_D A [(h_m, .inr (5, [.int th, .int nd, .int sw, .int so, .int lo, .ref h_one, .ref h_oth, .ref h_isb, .int cl, .int ea, .int on, .int lg, .ref h_log, .int wr, .ref h_seq, .int pe, .ref h_mho, .ref h_mih, .ref a_far])), (h_one, .inl (cI, 24, .inl one)), (h_oth, .inl (cI, 24, .inl oth)), (h_isb, .inl (cZ, 24, .inl isb)), (h_log, .inl (cI, 200, .inl log)), (h_seq, .inl (cI, 30, .inl seq)), (h_mho, .inl (cI, 10, .inl mho)), (h_mih, .inl (cZ, 10, .inl mih))] → va_S A s.heap H locs → lv_has ls 4 [(0, .ref h_m), (1, .int p0)] → W p l e (headSpec wsX5_carryOut rmX5_carryOut).room s m (([.ref h_m, .int p0] : List Value).toArray) below meth c H locs 0 0 QQ (F0 m 47 ls [.int y3, .ref h_m])) h (fun y3 h H locs ls hP hD hS hl => ?_) (fun g47_4 hg47_5 h => ?_)
  · refine va_put (D := D) (ci := 5) (v := .int y3) (ty := .int) (C := RX5) (T := TX5) (N := 19) hx hb hts inX5_carryOut_X5 tyX5 tyX5_ok nmX5 hown hK hP hD hS 0 rfl rfl 0 (by decide) (hts _ lkX5_carryOut_0) (fun _ h9 => h9) rfl (by decide +kernel) rfl rfl (Nat.le_of_ble_eq_true rfl) dX5_carryOut_47 (fun H locs hP hD hS => ?_)
    have hP : va_P D vwCl [(h_m, .inr (5, [.int y3, .int nd, .int sw, .int so, .int lo, .ref h_one, .ref h_oth, .ref h_isb, .int cl, .int ea, .int on, .int lg, .ref h_log, .int wr, .ref h_seq, .int pe, .ref h_mho, .ref h_mih, .ref a_far])), (h_one, .inl (cI, 24, .inl one)), (h_oth, .inl (cI, 24, .inl oth)), (h_isb, .inl (cZ, 24, .inl isb)), (h_log, .inl (cI, 200, .inl log)), (h_seq, .inl (cI, 30, .inl seq)), (h_mho, .inl (cI, 10, .inl mho)), (h_mih, .inl (cZ, 10, .inl mih))] H := hP
    have hD : va_D A [(h_m, .inr (5, [.int y3, .int nd, .int sw, .int so, .int lo, .ref h_one, .ref h_oth, .ref h_isb, .int cl, .int ea, .int on, .int lg, .ref h_log, .int wr, .ref h_seq, .int pe, .ref h_mho, .ref h_mih, .ref a_far])), (h_one, .inl (cI, 24, .inl one)), (h_oth, .inl (cI, 24, .inl oth)), (h_isb, .inl (cZ, 24, .inl isb)), (h_log, .inl (cI, 200, .inl log)), (h_seq, .inl (cI, 30, .inl seq)), (h_mho, .inl (cI, 10, .inl mho)), (h_mih, .inl (cZ, 10, .inl mih))] := hD
    refine lv_iconst (v := 0) hx hb dX5_carryOut_50 (by decide) ?_
    refine lv_istore_n (lv' := [(2, .int 0), (0, .ref h_m), (1, .int p0)]) hx hb dX5_carryOut_51 rfl hl (by decide) rfl (fun ls hl => ?_)
    refine it9_e (fun (x6 : Int32) (w7 : Int32) (w8 : Int32) (w9 : Int32) (w10 : Int32) (w11 : Int32) (w12 : Nat → Int32) (w13 : Int32) (w14 : Nat → Int32) => ∀ (H : Heap) (locs : List Loc) (ls : Array Slot), va_P D vwCl [(h_m, .inr (5, [.int w7, .int nd, .int sw, .int so, .int lo, .ref h_one, .ref h_oth, .ref h_isb, .int w8, .int w9, .int w10, .int w11, .ref h_log, .int w13, .ref h_seq, .int pe, .ref h_mho, .ref h_mih, .ref a_far])), (h_one, .inl (cI, 24, .inl one)), (h_oth, .inl (cI, 24, .inl oth)), (h_isb, .inl (cZ, 24, .inl isb)), (h_log, .inl (cI, 200, .inl w12)), (h_seq, .inl (cI, 30, .inl w14)), (h_mho, .inl (cI, 10, .inl mho)), (h_mih, .inl (cZ, 10, .inl mih))] H → va_D A [(h_m, .inr (5, [.int w7, .int nd, .int sw, .int so, .int lo, .ref h_one, .ref h_oth, .ref h_isb, .int w8, .int w9, .int w10, .int w11, .ref h_log, .int w13, .ref h_seq, .int pe, .ref h_mho, .ref h_mih, .ref a_far])), (h_one, .inl (cI, 24, .inl one)), (h_oth, .inl (cI, 24, .inl oth)), (h_isb, .inl (cZ, 24, .inl isb)), (h_log, .inl (cI, 200, .inl w12)), (h_seq, .inl (cI, 30, .inl w14)), (h_mho, .inl (cI, 10, .inl mho)), (h_mih, .inl (cZ, 10, .inl mih))] → va_S A s.heap H locs → lv_has ls 4 [(2, .int x6), (0, .ref h_m), (1, .int p0)] → W p l e (headSpec wsX5_carryOut rmX5_carryOut).room s m (([.ref h_m, .int p0] : List Value).toArray) below meth c H locs 0 0 QQ (F0 m 52 ls [])) (fun g52_15 hg52_16 x6 w7 w8 w9 w10 w11 w12 w13 w14 h H locs ls hP hD hS hl => ?_) N 0 y3 cl ea on lg log wr seq h H locs ls hP hD hS (lv_sub hl [0, 1, 2] rfl)
    refine lv_aload_n hx hb dX5_carryOut_52 rfl (lv_at hl 1 rfl) ?_
    refine va_get (D := D) (ci := 5) (v := .int w7) (C := RX5) (T := TX5) (N := 19) hx hb hts inX5_carryOut_X5 hown hK hP 0 rfl rfl 0 (by decide) (hts _ lkX5_carryOut_0) (fun _ h9 => h9) rfl dX5_carryOut_53 ?_
    refine jn9_e (fun (x17 : Int32) (w18 : Int32) (w19 : Int32) (w20 : Int32) (w21 : Int32) (w22 : Int32) (w23 : Nat → Int32) (w24 : Int32) (w25 : Nat → Int32) => ∀ (H : Heap) (locs : List Loc) (ls : Array Slot), va_P D vwCl [(h_m, .inr (5, [.int w18, .int nd, .int sw, .int so, .int lo, .ref h_one, .ref h_oth, .ref h_isb, .int w19, .int w20, .int w21, .int w22, .ref h_log, .int w24, .ref h_seq, .int pe, .ref h_mho, .ref h_mih, .ref a_far])), (h_one, .inl (cI, 24, .inl one)), (h_oth, .inl (cI, 24, .inl oth)), (h_isb, .inl (cZ, 24, .inl isb)), (h_log, .inl (cI, 200, .inl w23)), (h_seq, .inl (cI, 30, .inl w25)), (h_mho, .inl (cI, 10, .inl mho)), (h_mih, .inl (cZ, 10, .inl mih))] H → va_D A [(h_m, .inr (5, [.int w18, .int nd, .int sw, .int so, .int lo, .ref h_one, .ref h_oth, .ref h_isb, .int w19, .int w20, .int w21, .int w22, .ref h_log, .int w24, .ref h_seq, .int pe, .ref h_mho, .ref h_mih, .ref a_far])), (h_one, .inl (cI, 24, .inl one)), (h_oth, .inl (cI, 24, .inl oth)), (h_isb, .inl (cZ, 24, .inl isb)), (h_log, .inl (cI, 200, .inl w23)), (h_seq, .inl (cI, 30, .inl w25)), (h_mho, .inl (cI, 10, .inl mho)), (h_mih, .inl (cZ, 10, .inl mih))] → va_S A s.heap H locs → lv_has ls 4 [(2, .int x17), (0, .ref h_m), (1, .int p0)] → W p l e (headSpec wsX5_carryOut rmX5_carryOut).room s m (([.ref h_m, .int p0] : List Value).toArray) below meth c H locs 0 0 QQ (F0 m 103 ls [])) h (fun x17 w18 w19 w20 w21 w22 w23 w24 w25 h H locs ls hP hD hS hl => ?_) (fun g103_26 hg103_27 h => ?_)
    · refine lv_iload_n hx hb dX5_carryOut_103 rfl (lv_at hl 0 rfl) ?_
      refine lv_istore_n (lv' := [(3, .int x17), (2, .int x17), (0, .ref h_m), (1, .int p0)]) hx hb dX5_carryOut_104 rfl hl (by decide) rfl (fun ls hl => ?_)
      refine it9_e (fun (x28 : Int32) (w29 : Int32) (w30 : Int32) (w31 : Int32) (w32 : Int32) (w33 : Int32) (w34 : Nat → Int32) (w35 : Int32) (w36 : Nat → Int32) => ∀ (H : Heap) (locs : List Loc) (ls : Array Slot), va_P D vwCl [(h_m, .inr (5, [.int w29, .int nd, .int sw, .int so, .int lo, .ref h_one, .ref h_oth, .ref h_isb, .int w30, .int w31, .int w32, .int w33, .ref h_log, .int w35, .ref h_seq, .int pe, .ref h_mho, .ref h_mih, .ref a_far])), (h_one, .inl (cI, 24, .inl one)), (h_oth, .inl (cI, 24, .inl oth)), (h_isb, .inl (cZ, 24, .inl isb)), (h_log, .inl (cI, 200, .inl w34)), (h_seq, .inl (cI, 30, .inl w36)), (h_mho, .inl (cI, 10, .inl mho)), (h_mih, .inl (cZ, 10, .inl mih))] H → va_D A [(h_m, .inr (5, [.int w29, .int nd, .int sw, .int so, .int lo, .ref h_one, .ref h_oth, .ref h_isb, .int w30, .int w31, .int w32, .int w33, .ref h_log, .int w35, .ref h_seq, .int pe, .ref h_mho, .ref h_mih, .ref a_far])), (h_one, .inl (cI, 24, .inl one)), (h_oth, .inl (cI, 24, .inl oth)), (h_isb, .inl (cZ, 24, .inl isb)), (h_log, .inl (cI, 200, .inl w34)), (h_seq, .inl (cI, 30, .inl w36)), (h_mho, .inl (cI, 10, .inl mho)), (h_mih, .inl (cZ, 10, .inl mih))] → va_S A s.heap H locs → lv_has ls 4 [(3, .int x28), (2, .int x17), (0, .ref h_m), (1, .int p0)] → W p l e (headSpec wsX5_carryOut rmX5_carryOut).room s m (([.ref h_m, .int p0] : List Value).toArray) below meth c H locs 0 0 QQ (F0 m 105 ls [])) (fun g105_37 hg105_38 x28 w29 w30 w31 w32 w33 w34 w35 w36 h H locs ls hP hD hS hl => ?_) N x17 w18 w19 w20 w21 w22 w23 w24 w25 h H locs ls hP hD hS (lv_sub hl [0, 1, 2, 3] rfl)
      refine lv_iload_n hx hb dX5_carryOut_105 rfl (lv_at hl 0 rfl) ?_
      refine lv_aload_n hx hb dX5_carryOut_106 rfl (lv_at hl 2 rfl) ?_
      refine va_get (D := D) (ci := 5) (v := .int w35) (C := RX5) (T := TX5) (N := 19) hx hb hts inX5_carryOut_X5 hown hK hP 0 rfl rfl 13 (by decide) (hts _ lkX5_carryOut_1) (fun _ h9 => h9) rfl dX5_carryOut_107 ?_
      refine lv_icmp_ge (tgt := 133) hx hb dX5_carryOut_110 (by decide) (fun c39 => ?_) (fun c39 => ?_)
      · have h := it_t h c39
        refine lv_aload_n hx hb dX5_carryOut_133 rfl (lv_at hl 2 rfl) ?_
        refine lv_dup hx hb dX5_carryOut_134 rfl ?_
        refine va_get (D := D) (ci := 5) (v := .int w35) (C := RX5) (T := TX5) (N := 19) hx hb hts inX5_carryOut_X5 hown hK hP 0 rfl rfl 13 (by decide) (hts _ lkX5_carryOut_1) (fun _ h9 => h9) rfl dX5_carryOut_135 ?_
        refine lv_iload_n hx hb dX5_carryOut_138 rfl (lv_at hl 1 rfl) ?_
        refine lv_isub hx hb dX5_carryOut_139 ?_
        refine va_put (D := D) (ci := 5) (v := .int (w35 - x17)) (ty := .int) (C := RX5) (T := TX5) (N := 19) hx hb hts inX5_carryOut_X5 tyX5 tyX5_ok nmX5 hown hK hP hD hS 0 rfl rfl 13 (by decide) (hts _ lkX5_carryOut_1) (fun _ h9 => h9) rfl (by decide +kernel) rfl rfl (Nat.le_of_ble_eq_true rfl) dX5_carryOut_140 (fun H locs hP hD hS => ?_)
        have hP : va_P D vwCl [(h_m, .inr (5, [.int w29, .int nd, .int sw, .int so, .int lo, .ref h_one, .ref h_oth, .ref h_isb, .int w30, .int w31, .int w32, .int w33, .ref h_log, .int (w35 - x17), .ref h_seq, .int pe, .ref h_mho, .ref h_mih, .ref a_far])), (h_one, .inl (cI, 24, .inl one)), (h_oth, .inl (cI, 24, .inl oth)), (h_isb, .inl (cZ, 24, .inl isb)), (h_log, .inl (cI, 200, .inl w34)), (h_seq, .inl (cI, 30, .inl w36)), (h_mho, .inl (cI, 10, .inl mho)), (h_mih, .inl (cZ, 10, .inl mih))] H := hP
        have hD : va_D A [(h_m, .inr (5, [.int w29, .int nd, .int sw, .int so, .int lo, .ref h_one, .ref h_oth, .ref h_isb, .int w30, .int w31, .int w32, .int w33, .ref h_log, .int (w35 - x17), .ref h_seq, .int pe, .ref h_mho, .ref h_mih, .ref a_far])), (h_one, .inl (cI, 24, .inl one)), (h_oth, .inl (cI, 24, .inl oth)), (h_isb, .inl (cZ, 24, .inl isb)), (h_log, .inl (cI, 200, .inl w34)), (h_seq, .inl (cI, 30, .inl w36)), (h_mho, .inl (cI, 10, .inl mho)), (h_mih, .inl (cZ, 10, .inl mih))] := hD
        refine lv_iload_n hx hb dX5_carryOut_143 rfl (lv_at hl 1 rfl) ?_
        cases h
        rw [hQQ]
        exact W.iret hx hb hr (fun t ht hW => ⟨rfl, by rw [ht]; exact hP, hD, hS.F ht⟩) hS.2.2 dX5_carryOut_144
      · have h := it_f h c39
        refine lv_aload_n hx hb dX5_carryOut_113 rfl (lv_at hl 2 rfl) ?_
        refine va_get (D := D) (ci := 5) (v := .ref h_seq) (C := RX5) (T := TX5) (N := 19) hx hb hts inX5_carryOut_X5 hown hK hP 0 rfl rfl 14 (by decide) (hts _ lkX5_carryOut_2) (fun _ h9 => h9) rfl dX5_carryOut_114 ?_
        refine lv_iload_n hx hb dX5_carryOut_117 rfl (lv_at hl 0 rfl) ?_
        refine lv_iload_n hx hb dX5_carryOut_118 rfl (lv_at hl 1 rfl) ?_
        refine lv_isub hx hb dX5_carryOut_119 ?_
        refine lv_aload_n hx hb dX5_carryOut_120 rfl (lv_at hl 2 rfl) ?_
        refine va_get (D := D) (ci := 5) (v := .ref h_seq) (C := RX5) (T := TX5) (N := 19) hx hb hts inX5_carryOut_X5 hown hK hP 0 rfl rfl 14 (by decide) (hts _ lkX5_carryOut_2) (fun _ h9 => h9) rfl dX5_carryOut_121 ?_
        refine lv_iload_n hx hb dX5_carryOut_124 rfl (lv_at hl 0 rfl) ?_
        obtain ⟨hi40, h⟩ := gin_e h
        refine va_iald hx hb hK hP 5 0 rfl rfl hi40 dX5_carryOut_125 ?_
        obtain ⟨hi41, h⟩ := gin_e h
        refine va_iast hx hb hK hP hD hS 5 0 rfl rfl hi41 dX5_carryOut_126 (fun H locs hP hD hS => ?_)
        have hP : va_P D vwCl [(h_m, .inr (5, [.int w29, .int nd, .int sw, .int so, .int lo, .ref h_one, .ref h_oth, .ref h_isb, .int w30, .int w31, .int w32, .int w33, .ref h_log, .int w35, .ref h_seq, .int pe, .ref h_mho, .ref h_mih, .ref a_far])), (h_one, .inl (cI, 24, .inl one)), (h_oth, .inl (cI, 24, .inl oth)), (h_isb, .inl (cZ, 24, .inl isb)), (h_log, .inl (cI, 200, .inl w34)), (h_seq, .inl (cI, 30, .inl (upd w36 (x28 - x17).toNatClampNeg (w36 x28.toNatClampNeg)))), (h_mho, .inl (cI, 10, .inl mho)), (h_mih, .inl (cZ, 10, .inl mih))] H := hP
        have hD : va_D A [(h_m, .inr (5, [.int w29, .int nd, .int sw, .int so, .int lo, .ref h_one, .ref h_oth, .ref h_isb, .int w30, .int w31, .int w32, .int w33, .ref h_log, .int w35, .ref h_seq, .int pe, .ref h_mho, .ref h_mih, .ref a_far])), (h_one, .inl (cI, 24, .inl one)), (h_oth, .inl (cI, 24, .inl oth)), (h_isb, .inl (cZ, 24, .inl isb)), (h_log, .inl (cI, 200, .inl w34)), (h_seq, .inl (cI, 30, .inl (upd w36 (x28 - x17).toNatClampNeg (w36 x28.toNatClampNeg)))), (h_mho, .inl (cI, 10, .inl mho)), (h_mih, .inl (cZ, 10, .inl mih))] := hD
        refine lv_iinc (v := x28 + 1) (lv' := [(3, .int (x28 + 1)), (2, .int x17), (0, .ref h_m), (1, .int p0)]) hx hb dX5_carryOut_127 hl (k := 0) rfl rfl (by decide) rfl (fun ls hl => ?_)
        refine lv_goto (tgt := 105) hx hb dX5_carryOut_130 (by decide) ?_
        exact hg105_38 (x28 + 1) w29 w30 w31 w32 w33 w34 w35 (upd w36 (x28 - x17).toNatClampNeg (w36 x28.toNatClampNeg)) h H locs ls hP hD hS (lv_sub hl [0, 1, 2, 3] rfl)
    · refine lv_if_ne (tgt := 103) hx hb dX5_carryOut_56 (by decide) (fun c42 => ?_) (fun c42 => ?_)
      · have h := it_f h c42
        exact hg103_27 x6 w7 w8 w9 w10 w11 w12 w13 w14 h H locs ls hP hD hS (lv_sub hl [0, 1, 2] rfl)
      · have h := it_t h c42
        refine lv_iload_n hx hb dX5_carryOut_59 rfl (lv_at hl 0 rfl) ?_
        refine lv_iload_n hx hb dX5_carryOut_60 rfl (lv_at hl 2 rfl) ?_
        refine lv_icmp_ge (tgt := 103) hx hb dX5_carryOut_61 (by decide) (fun c43 => ?_) (fun c43 => ?_)
        · have h := it_t h c43
          exact hg103_27 x6 w7 w8 w9 w10 w11 w12 w13 w14 h H locs ls hP hD hS (lv_sub hl [0, 1, 2] rfl)
        · have h := it_f h c43
          refine lv_iload_n hx hb dX5_carryOut_64 rfl (lv_at hl 0 rfl) ?_
          refine lv_aload_n hx hb dX5_carryOut_65 rfl (lv_at hl 1 rfl) ?_
          refine va_get (D := D) (ci := 5) (v := .int w13) (C := RX5) (T := TX5) (N := 19) hx hb hts inX5_carryOut_X5 hown hK hP 0 rfl rfl 13 (by decide) (hts _ lkX5_carryOut_1) (fun _ h9 => h9) rfl dX5_carryOut_66 ?_
          refine lv_icmp_ge (tgt := 103) hx hb dX5_carryOut_69 (by decide) (fun c44 => ?_) (fun c44 => ?_)
          · have h := it_t h c44
            exact hg103_27 x6 w7 w8 w9 w10 w11 w12 w13 w14 h H locs ls hP hD hS (lv_sub hl [0, 1, 2] rfl)
          · have h := it_f h c44
            refine lv_aload_n hx hb dX5_carryOut_72 rfl (lv_at hl 1 rfl) ?_
            refine lv_aload_n hx hb dX5_carryOut_73 rfl (lv_at hl 1 rfl) ?_
            refine va_get (D := D) (ci := 5) (v := .ref h_seq) (C := RX5) (T := TX5) (N := 19) hx hb hts inX5_carryOut_X5 hown hK hP 0 rfl rfl 14 (by decide) (hts _ lkX5_carryOut_2) (fun _ h9 => h9) rfl dX5_carryOut_74 ?_
            refine lv_iload_n hx hb dX5_carryOut_77 rfl (lv_at hl 0 rfl) ?_
            obtain ⟨hi45, h⟩ := gin_e h
            refine va_iald hx hb hK hP 5 0 rfl rfl hi45 dX5_carryOut_78 ?_
            refine lv_bipush (v := 100) hx hb dX5_carryOut_79 (by decide) ?_
            refine lv_idiv hx hb dX5_carryOut_81 (by decide) ?_
            refine lv_aload_n hx hb dX5_carryOut_82 rfl (lv_at hl 1 rfl) ?_
            refine va_get (D := D) (ci := 5) (v := .ref h_seq) (C := RX5) (T := TX5) (N := 19) hx hb hts inX5_carryOut_X5 hown hK hP 0 rfl rfl 14 (by decide) (hts _ lkX5_carryOut_2) (fun _ h9 => h9) rfl dX5_carryOut_83 ?_
            refine lv_iload_n hx hb dX5_carryOut_86 rfl (lv_at hl 0 rfl) ?_
            obtain ⟨hi46, h⟩ := gin_e h
            refine va_iald hx hb hK hP 5 0 rfl rfl hi46 dX5_carryOut_87 ?_
            refine lv_bipush (v := 100) hx hb dX5_carryOut_88 (by decide) ?_
            refine lv_irem hx hb dX5_carryOut_90 (by decide) ?_
            obtain ⟨v48, w49, w50, w51, w52, w53, hq47, h⟩ := bd6_e h
            refine zz_mV (As := [.int ((w14 x6.toNatClampNeg) / 100), .int ((w14 x6.toNatClampNeg) - (w14 x6.toNatClampNeg) / 100 * 100)]) (wr := [(h_seq, .inl (cI, 30, .inl w14))]) (w1 := [(h_m, .inr (5, [.int w7, .int nd, .int sw, .int so, .int lo, .ref h_one, .ref h_oth, .ref h_isb, .int w49, .int w50, .int w51, .int w52, .ref h_log, .int w13, .ref h_seq, .int pe, .ref h_mho, .ref h_mih, .ref a_far])), (h_one, .inl (cI, 24, .inl one)), (h_oth, .inl (cI, 24, .inl oth)), (h_isb, .inl (cZ, 24, .inl isb)), (h_log, .inl (cI, 200, .inl w53)), (h_mho, .inl (cI, 10, .inl mho)), (h_mih, .inl (cZ, 10, .inl mih))]) (wt' := [(h_m, .inr (5, [.int w7, .int nd, .int sw, .int so, .int lo, .ref h_one, .ref h_oth, .ref h_isb, .int w49, .int w50, .int w51, .int w52, .ref h_log, .int w13, .ref h_seq, .int pe, .ref h_mho, .ref h_mih, .ref a_far])), (h_one, .inl (cI, 24, .inl one)), (h_oth, .inl (cI, 24, .inl oth)), (h_isb, .inl (cZ, 24, .inl isb)), (h_log, .inl (cI, 200, .inl w53)), (h_seq, .inl (cI, 30, .inl w14)), (h_mho, .inl (cI, 10, .inl mho)), (h_mih, .inl (cZ, 10, .inl mih))]) (wc := [(h_m, .inr (5, [.int w7, .int nd, .int sw, .int so, .int lo, .ref h_one, .ref h_oth, .ref h_isb, .int w8, .int w9, .int w10, .int w11, .ref h_log, .int w13, .ref h_seq, .int pe, .ref h_mho, .ref h_mih, .ref a_far])), (h_one, .inl (cI, 24, .inl one)), (h_oth, .inl (cI, 24, .inl oth)), (h_isb, .inl (cZ, 24, .inl isb)), (h_log, .inl (cI, 200, .inl w12)), (h_mho, .inl (cI, 10, .inl mho)), (h_mih, .inl (cZ, 10, .inl mih))]) (rv := (some (.int v48))) ⟨hx, hb, hml, hown, hts⟩ (kX5_acts l D cI cZ cL H.size h_m h_seq a_far h_one h_oth h_isb h_log h_mho h_mih w7 nd sw so lo w8 w9 w10 w11 w13 pe one oth isb w12 mho mih ((w14 x6.toNatClampNeg) / 100) ((w14 x6.toNatClampNeg) - (w14 x6.toNatClampNeg) / 100 * 100) N hq47) (cwV 2 hts gX5_carryOut_X5_acts rfl rfl rfl (by decide +kernel) ⟨Nat.le_of_ble_eq_true rfl, Nat.le_of_ble_eq_true rfl⟩) hP hD hS hA hKK [0, 1, 2, 3, 4, 6, 7] [5] [1, 2, 3, 4, 5, 0, 6, 7] rfl rfl (by decide) (by decide) rfl (by decide) (by decide) (va_recv hK hP (ci := 5) (q0 := 0) rfl rfl) rfl hl.1 rfl (Nat.le_of_ble_eq_true rfl) dX5_carryOut_91 ⟨Nat.le_of_ble_eq_true rfl, Nat.le_of_ble_eq_true rfl⟩ (fun H locs hP hD hS hz9 => ?_)
            show W p l e _ s m _ below meth c H locs _ _ QQ (F0 m 94 ls (.int v48 :: []))
            refine lv_if_ne (tgt := 103) hx hb dX5_carryOut_94 (by decide) (fun c54 => ?_) (fun c54 => ?_)
            · have h := it_f h c54
              exact hg103_27 x6 w7 w49 w50 w51 w52 w53 w13 w14 h H locs ls hP hD hS (lv_sub hl [0, 1, 2] rfl)
            · have h := it_t h c54
              refine lv_iinc (v := x6 + 1) (lv' := [(2, .int (x6 + 1)), (0, .ref h_m), (1, .int p0)]) hx hb dX5_carryOut_97 hl (k := 0) rfl rfl (by decide) rfl (fun ls hl => ?_)
              refine lv_goto (tgt := 52) hx hb dX5_carryOut_100 (by decide) ?_
              exact hg52_16 (x6 + 1) w7 w49 w50 w51 w52 w53 w13 w14 h H locs ls hP hD hS (lv_sub hl [0, 1, 2] rfl)
  · refine lv_if_ne (tgt := 15) hx hb dX5_carryOut_8 (by decide) (fun c55 => ?_) (fun c55 => ?_)
    · have h := it_f h c55
      refine lv_aload_n hx hb dX5_carryOut_15 rfl (lv_at hl 0 rfl) ?_
      refine va_get (D := D) (ci := 5) (v := .int lg) (C := RX5) (T := TX5) (N := 19) hx hb hts inX5_carryOut_X5 hown hK hP 0 rfl rfl 11 (by decide) (hts _ lkX5_carryOut_3) (fun _ h9 => h9) rfl dX5_carryOut_16 ?_
      refine lv_iload_n hx hb dX5_carryOut_19 rfl (lv_at hl 1 rfl) ?_
      refine lv_aload_n hx hb dX5_carryOut_20 rfl (lv_at hl 0 rfl) ?_
      refine va_get (D := D) (ci := 5) (v := .int wr) (C := RX5) (T := TX5) (N := 19) hx hb hts inX5_carryOut_X5 hown hK hP 0 rfl rfl 13 (by decide) (hts _ lkX5_carryOut_1) (fun _ h9 => h9) rfl dX5_carryOut_21 ?_
      refine lv_icmp_ge (tgt := 31) hx hb dX5_carryOut_24 (by decide) (fun c56 => ?_) (fun c56 => ?_)
      · have h := it_t h c56
        refine lv_aload_n hx hb dX5_carryOut_31 rfl (lv_at hl 0 rfl) ?_
        refine va_get (D := D) (ci := 5) (v := .int wr) (C := RX5) (T := TX5) (N := 19) hx hb hts inX5_carryOut_X5 hown hK hP 0 rfl rfl 13 (by decide) (hts _ lkX5_carryOut_1) (fun _ h9 => h9) rfl dX5_carryOut_32 ?_
        refine lv_iadd hx hb dX5_carryOut_35 ?_
        refine lv_sipush (v := 200) hx hb dX5_carryOut_36 (by decide) ?_
        refine lv_icmp_le (tgt := 46) hx hb dX5_carryOut_39 (by decide) (fun c57 => ?_) (fun c57 => ?_)
        · have h := it_t h c57
          refine lv_iconst (v := 0) hx hb dX5_carryOut_46 (by decide) ?_
          exact hg47_5 0 h H locs ls hP hD hS (lv_sub hl [0, 1] rfl)
        · have h := it_f h c57
          refine lv_iconst (v := 2) hx hb dX5_carryOut_42 (by decide) ?_
          refine lv_goto (tgt := 47) hx hb dX5_carryOut_43 (by decide) ?_
          exact hg47_5 2 h H locs ls hP hD hS (lv_sub hl [0, 1] rfl)
      · have h := it_f h c56
        refine lv_iload_n hx hb dX5_carryOut_27 rfl (lv_at hl 1 rfl) ?_
        refine lv_goto (tgt := 35) hx hb dX5_carryOut_28 (by decide) ?_
        refine lv_iadd hx hb dX5_carryOut_35 ?_
        refine lv_sipush (v := 200) hx hb dX5_carryOut_36 (by decide) ?_
        refine lv_icmp_le (tgt := 46) hx hb dX5_carryOut_39 (by decide) (fun c58 => ?_) (fun c58 => ?_)
        · have h := it_t h c58
          refine lv_iconst (v := 0) hx hb dX5_carryOut_46 (by decide) ?_
          exact hg47_5 0 h H locs ls hP hD hS (lv_sub hl [0, 1] rfl)
        · have h := it_f h c58
          refine lv_iconst (v := 2) hx hb dX5_carryOut_42 (by decide) ?_
          refine lv_goto (tgt := 47) hx hb dX5_carryOut_43 (by decide) ?_
          exact hg47_5 2 h H locs ls hP hD hS (lv_sub hl [0, 1] rfl)
    · have h := it_t h c55
      refine lv_iconst (v := 1) hx hb dX5_carryOut_11 (by decide) ?_
      refine lv_goto (tgt := 47) hx hb dX5_carryOut_12 (by decide) ?_
      exact hg47_5 1 h H locs ls hP hD hS (lv_sub hl [0, 1] rfl)

def fX5_writeBack (N : Nat) (th : Int32) (nd : Int32) (sw : Int32) (so : Int32) (lo : Int32) (cl : Int32) (ea : Int32) (on : Int32) (lg : Int32) (wr : Int32) (pe : Int32) (log : Nat → Int32) (seq : Nat → Int32) : Option ((Int32) × (Int32) × (Int32) × (Nat → Int32)) :=
  jn1 (fun (y1 : Int32) => it4 (fun g29_8 (x4 : Int32) (w5 : Int32) (w6 : Int32) (w7 : Nat → Int32) => (if w6 ≤ x4 then some (w6, w5, w6, w7) else gin ((lg - 1) - x4) 200 (bd1 (fX5_opposite N  (log ((lg - 1) - x4).toNatClampNeg)) (fun v12 => gin x4 30 (g29_8 (x4 + 1) w5 w6 (upd w7 x4.toNatClampNeg v12)))))) N 0 0 y1 seq) (fun g24_2 => (if 30 ≤ lg then g24_2 30 else g24_2 lg))
set_option maxRecDepth 100000 in
theorem inX5_writeBack_X5 : ∀ w ∈ wsX50, w ∈ wsX5_writeBack := by decide +kernel
set_option maxRecDepth 100000 in
theorem lkX5_writeBack_0 : (.fieldLink RX5 35 "SwitchlogModel" "thrown" "I" : Cond) ∈ wsX5_writeBack := by decide +kernel
set_option maxRecDepth 100000 in
theorem lkX5_writeBack_1 : (.fieldLink RX5 124 "SwitchlogModel" "logged" "I" : Cond) ∈ wsX5_writeBack := by decide +kernel
set_option maxRecDepth 100000 in
theorem lkX5_writeBack_2 : (.fieldLink RX5 137 "SwitchlogModel" "written" "I" : Cond) ∈ wsX5_writeBack := by decide +kernel
set_option maxRecDepth 100000 in
theorem lkX5_writeBack_3 : (.fieldLink RX5 23 "SwitchlogModel" "sequence" "[I" : Cond) ∈ wsX5_writeBack := by decide +kernel
set_option maxRecDepth 100000 in
theorem lkX5_writeBack_4 : (.fieldLink RX5 20 "SwitchlogModel" "log" "[I" : Cond) ∈ wsX5_writeBack := by decide +kernel
abbrev rmX5_writeBack : Room := { frames := 1, cells := 0, slots := 0, locals := 20 }
set_option maxHeartbeats 4000000 in
set_option maxRecDepth 100000 in
theorem kX5_writeBack (l : Launch) (D : va_G) (cI cZ cL : ClassId) (sz0 : Nat) (h_m a_one a_oth a_isb a_mho a_mih a_far h_log h_seq : Nat) (th : Int32) (nd : Int32) (sw : Int32) (so : Int32) (lo : Int32) (cl : Int32) (ea : Int32) (on : Int32) (lg : Int32) (wr : Int32) (pe : Int32) (log : Nat → Int32) (seq : Nat → Int32)  (N : Nat) {r : Int32} {r_0 : Int32} {r_1 : Int32} {r_2 : Nat → Int32} (h : fX5_writeBack N th nd sw so lo cl ea on lg wr pe log seq  = some (r, r_0, r_1, r_2)) : Met l yX5_writeBack wsX5_writeBack rmX5_writeBack (PM D cI cZ cL [.ref h_m] [(h_m, .inr (5, [.int th, .int nd, .int sw, .int so, .int lo, .ref a_one, .ref a_oth, .ref a_isb, .int cl, .int ea, .int on, .int lg, .ref h_log, .int wr, .ref h_seq, .int pe, .ref a_mho, .ref a_mih, .ref a_far])), (h_log, .inl (cI, 200, .inl log)), (h_seq, .inl (cI, 30, .inl seq))] sz0) (QM D (some (.int r)) (va_A [(h_m, .inr (5, [.int th, .int nd, .int sw, .int so, .int lo, .ref a_one, .ref a_oth, .ref a_isb, .int cl, .int ea, .int on, .int lg, .ref h_log, .int wr, .ref h_seq, .int pe, .ref a_mho, .ref a_mih, .ref a_far])), (h_log, .inl (cI, 200, .inl log)), (h_seq, .inl (cI, 30, .inl seq))] sz0) [(h_m, .inr (5, [.int r_0, .int nd, .int sw, .int so, .int lo, .ref a_one, .ref a_oth, .ref a_isb, .int cl, .int ea, .int on, .int lg, .ref h_log, .int r_1, .ref h_seq, .int pe, .ref a_mho, .ref a_mih, .ref a_far])), (h_log, .inl (cI, 200, .inl log)), (h_seq, .inl (cI, 30, .inl r_2))]) 0 0 (va_A [(h_m, .inr (5, [.int th, .int nd, .int sw, .int so, .int lo, .ref a_one, .ref a_oth, .ref a_isb, .int cl, .int ea, .int on, .int lg, .ref h_log, .int wr, .ref h_seq, .int pe, .ref a_mho, .ref a_mih, .ref a_far])), (h_log, .inl (cI, 200, .inl log)), (h_seq, .inl (cI, 30, .inl seq))] sz0) := by
  refine Met.ofW (cc := cX5_writeBack) (maxL := 2) (ret := (some .int)) (by decide) rfl ?_
  intro p e s m args below meth c s₁ B hml hv
  obtain ⟨rfl, hsz, hP, hKK, hD0⟩ := hv
  have hK := hKK.1
  have hx := B.exec
  have hb := B.bytes
  have hr := B.returns
  have hts := atoms_spec (ws := wsX5_writeBack) B.pre
  have hown : s.vm.findClass RX5 = some m.cls := findClass_of_methodNamed B.named
  have hlocks := B.notSynchronized
  subst hsz
  have hD := hD0.self (sz := s.heap.size)
  generalize hAe : va_A [(h_m, .inr (5, [.int th, .int nd, .int sw, .int so, .int lo, .ref a_one, .ref a_oth, .ref a_isb, .int cl, .int ea, .int on, .int lg, .ref h_log, .int wr, .ref h_seq, .int pe, .ref a_mho, .ref a_mih, .ref a_far])), (h_log, .inl (cI, 200, .inl log)), (h_seq, .inl (cI, 30, .inl seq))] s.heap.size = A at hD ⊢
  have hA : ∀ q : Nat, s.heap.size ≤ q → A q := fun q h => by rw [← hAe]; exact Or.inr h
  have hS : va_S A s.heap s.heap [] := va_S.rf
  have hl := lv_entry ([.ref h_m]) (n := 2) (Nat.le_of_ble_eq_true rfl)
  rw [lg_entry_eq]
  generalize (lg_sl ([.ref h_m]) ++ List.replicate (2 - (lg_sl ([.ref h_m])).length) Slot.unset).toArray = ls at hl ⊢
  have hl : lv_has ls 2 [(0, .ref h_m)] := hl
  obtain ⟨QQ, hQQ⟩ : ∃ Z, Z = MQ below (QM D (some (.int r)) A [(h_m, .inr (5, [.int r_0, .int nd, .int sw, .int so, .int lo, .ref a_one, .ref a_oth, .ref a_isb, .int cl, .int ea, .int on, .int lg, .ref h_log, .int r_1, .ref h_seq, .int pe, .ref a_mho, .ref a_mih, .ref a_far])), (h_log, .inl (cI, 200, .inl log)), (h_seq, .inl (cI, 30, .inl r_2))]) ([.ref h_m] : List Value).toArray s 0 0 A := ⟨_, rfl⟩
  rw [← hQQ]
  obtain ⟨H, locs, hHe, hLe⟩ : ∃ (H : Heap) (locs : List Loc), H = s.heap ∧ locs = [] := ⟨_, _, rfl, rfl⟩
  have hP : va_P D vwCl [(h_m, .inr (5, [.int th, .int nd, .int sw, .int so, .int lo, .ref a_one, .ref a_oth, .ref a_isb, .int cl, .int ea, .int on, .int lg, .ref h_log, .int wr, .ref h_seq, .int pe, .ref a_mho, .ref a_mih, .ref a_far])), (h_log, .inl (cI, 200, .inl log)), (h_seq, .inl (cI, 30, .inl seq))] H := by rw [hHe]; exact hP
  have hS : va_S A s.heap H locs := by rw [hHe, hLe]; exact hS
  have hW0 : ∀ QQ : State → Prop, W p l e (headSpec wsX5_writeBack rmX5_writeBack).room s m (([.ref h_m] : List Value).toArray) below meth c H locs 0 0 QQ (F0 m 0 ls []) → W p l e (headSpec wsX5_writeBack rmX5_writeBack).room s m (([.ref h_m] : List Value).toArray) below meth c s.heap [] 0 0 QQ (F0 m 0 ls []) := by rw [hHe, hLe]; exact fun _ h => h
  refine hW0 _ ?_
  clear hW0
  unfold fX5_writeBack at h
  refine lv_aload_n hx hb dX5_writeBack_0 rfl (lv_at hl 0 rfl) ?_
  refine lv_iconst (v := 0) hx hb dX5_writeBack_1 (by decide) ?_
  refine va_put (D := D) (ci := 5) (v := .int 0) (ty := .int) (C := RX5) (T := TX5) (N := 19) hx hb hts inX5_writeBack_X5 tyX5 tyX5_ok nmX5 hown hK hP hD hS 0 rfl rfl 0 (by decide) (hts _ lkX5_writeBack_0) (fun _ h9 => h9) rfl (by decide +kernel) rfl rfl (Nat.le_of_ble_eq_true rfl) dX5_writeBack_2 (fun H locs hP hD hS => ?_)
  have hP : va_P D vwCl [(h_m, .inr (5, [.int 0, .int nd, .int sw, .int so, .int lo, .ref a_one, .ref a_oth, .ref a_isb, .int cl, .int ea, .int on, .int lg, .ref h_log, .int wr, .ref h_seq, .int pe, .ref a_mho, .ref a_mih, .ref a_far])), (h_log, .inl (cI, 200, .inl log)), (h_seq, .inl (cI, 30, .inl seq))] H := hP
  have hD : va_D A [(h_m, .inr (5, [.int 0, .int nd, .int sw, .int so, .int lo, .ref a_one, .ref a_oth, .ref a_isb, .int cl, .int ea, .int on, .int lg, .ref h_log, .int wr, .ref h_seq, .int pe, .ref a_mho, .ref a_mih, .ref a_far])), (h_log, .inl (cI, 200, .inl log)), (h_seq, .inl (cI, 30, .inl seq))] := hD
  refine lv_aload_n hx hb dX5_writeBack_5 rfl (lv_at hl 0 rfl) ?_
  refine lv_aload_n hx hb dX5_writeBack_6 rfl (lv_at hl 0 rfl) ?_
  refine va_get (D := D) (ci := 5) (v := .int lg) (C := RX5) (T := TX5) (N := 19) hx hb hts inX5_writeBack_X5 hown hK hP 0 rfl rfl 11 (by decide) (hts _ lkX5_writeBack_1) (fun _ h9 => h9) rfl dX5_writeBack_7 ?_
  refine lv_bipush (v := 30) hx hb dX5_writeBack_10 (by decide) ?_
  refine jn1_e (fun (y1 : Int32) => ∀ (H : Heap) (locs : List Loc) (ls : Array Slot), va_P D vwCl [(h_m, .inr (5, [.int 0, .int nd, .int sw, .int so, .int lo, .ref a_one, .ref a_oth, .ref a_isb, .int cl, .int ea, .int on, .int lg, .ref h_log, .int wr, .ref h_seq, .int pe, .ref a_mho, .ref a_mih, .ref a_far])), (h_log, .inl (cI, 200, .inl log)), (h_seq, .inl (cI, 30, .inl seq))] H → va_D A [(h_m, .inr (5, [.int 0, .int nd, .int sw, .int so, .int lo, .ref a_one, .ref a_oth, .ref a_isb, .int cl, .int ea, .int on, .int lg, .ref h_log, .int wr, .ref h_seq, .int pe, .ref a_mho, .ref a_mih, .ref a_far])), (h_log, .inl (cI, 200, .inl log)), (h_seq, .inl (cI, 30, .inl seq))] → va_S A s.heap H locs → lv_has ls 2 [(0, .ref h_m)] → W p l e (headSpec wsX5_writeBack rmX5_writeBack).room s m (([.ref h_m] : List Value).toArray) below meth c H locs 0 0 QQ (F0 m 24 ls [.int y1, .ref h_m])) h (fun y1 h H locs ls hP hD hS hl => ?_) (fun g24_2 hg24_3 h => ?_)
  · refine va_put (D := D) (ci := 5) (v := .int y1) (ty := .int) (C := RX5) (T := TX5) (N := 19) hx hb hts inX5_writeBack_X5 tyX5 tyX5_ok nmX5 hown hK hP hD hS 0 rfl rfl 13 (by decide) (hts _ lkX5_writeBack_2) (fun _ h9 => h9) rfl (by decide +kernel) rfl rfl (Nat.le_of_ble_eq_true rfl) dX5_writeBack_24 (fun H locs hP hD hS => ?_)
    have hP : va_P D vwCl [(h_m, .inr (5, [.int 0, .int nd, .int sw, .int so, .int lo, .ref a_one, .ref a_oth, .ref a_isb, .int cl, .int ea, .int on, .int lg, .ref h_log, .int y1, .ref h_seq, .int pe, .ref a_mho, .ref a_mih, .ref a_far])), (h_log, .inl (cI, 200, .inl log)), (h_seq, .inl (cI, 30, .inl seq))] H := hP
    have hD : va_D A [(h_m, .inr (5, [.int 0, .int nd, .int sw, .int so, .int lo, .ref a_one, .ref a_oth, .ref a_isb, .int cl, .int ea, .int on, .int lg, .ref h_log, .int y1, .ref h_seq, .int pe, .ref a_mho, .ref a_mih, .ref a_far])), (h_log, .inl (cI, 200, .inl log)), (h_seq, .inl (cI, 30, .inl seq))] := hD
    refine lv_iconst (v := 0) hx hb dX5_writeBack_27 (by decide) ?_
    refine lv_istore_n (lv' := [(1, .int 0), (0, .ref h_m)]) hx hb dX5_writeBack_28 rfl hl (by decide) rfl (fun ls hl => ?_)
    refine it4_e (fun (x4 : Int32) (w5 : Int32) (w6 : Int32) (w7 : Nat → Int32) => ∀ (H : Heap) (locs : List Loc) (ls : Array Slot), va_P D vwCl [(h_m, .inr (5, [.int w5, .int nd, .int sw, .int so, .int lo, .ref a_one, .ref a_oth, .ref a_isb, .int cl, .int ea, .int on, .int lg, .ref h_log, .int w6, .ref h_seq, .int pe, .ref a_mho, .ref a_mih, .ref a_far])), (h_log, .inl (cI, 200, .inl log)), (h_seq, .inl (cI, 30, .inl w7))] H → va_D A [(h_m, .inr (5, [.int w5, .int nd, .int sw, .int so, .int lo, .ref a_one, .ref a_oth, .ref a_isb, .int cl, .int ea, .int on, .int lg, .ref h_log, .int w6, .ref h_seq, .int pe, .ref a_mho, .ref a_mih, .ref a_far])), (h_log, .inl (cI, 200, .inl log)), (h_seq, .inl (cI, 30, .inl w7))] → va_S A s.heap H locs → lv_has ls 2 [(1, .int x4), (0, .ref h_m)] → W p l e (headSpec wsX5_writeBack rmX5_writeBack).room s m (([.ref h_m] : List Value).toArray) below meth c H locs 0 0 QQ (F0 m 29 ls [])) (fun g29_8 hg29_9 x4 w5 w6 w7 h H locs ls hP hD hS hl => ?_) N 0 0 y1 seq h H locs ls hP hD hS (lv_sub hl [0, 1] rfl)
    refine lv_iload_n hx hb dX5_writeBack_29 rfl (lv_at hl 0 rfl) ?_
    refine lv_aload_n hx hb dX5_writeBack_30 rfl (lv_at hl 1 rfl) ?_
    refine va_get (D := D) (ci := 5) (v := .int w6) (C := RX5) (T := TX5) (N := 19) hx hb hts inX5_writeBack_X5 hown hK hP 0 rfl rfl 13 (by decide) (hts _ lkX5_writeBack_2) (fun _ h9 => h9) rfl dX5_writeBack_31 ?_
    refine lv_icmp_ge (tgt := 65) hx hb dX5_writeBack_34 (by decide) (fun c10 => ?_) (fun c10 => ?_)
    · have h := it_t h c10
      refine lv_aload_n hx hb dX5_writeBack_65 rfl (lv_at hl 1 rfl) ?_
      refine va_get (D := D) (ci := 5) (v := .int w6) (C := RX5) (T := TX5) (N := 19) hx hb hts inX5_writeBack_X5 hown hK hP 0 rfl rfl 13 (by decide) (hts _ lkX5_writeBack_2) (fun _ h9 => h9) rfl dX5_writeBack_66 ?_
      cases h
      rw [hQQ]
      exact W.iret hx hb hr (fun t ht hW => ⟨rfl, by rw [ht]; exact hP, hD, hS.F ht⟩) hS.2.2 dX5_writeBack_69
    · have h := it_f h c10
      refine lv_aload_n hx hb dX5_writeBack_37 rfl (lv_at hl 1 rfl) ?_
      refine va_get (D := D) (ci := 5) (v := .ref h_seq) (C := RX5) (T := TX5) (N := 19) hx hb hts inX5_writeBack_X5 hown hK hP 0 rfl rfl 14 (by decide) (hts _ lkX5_writeBack_3) (fun _ h9 => h9) rfl dX5_writeBack_38 ?_
      refine lv_iload_n hx hb dX5_writeBack_41 rfl (lv_at hl 0 rfl) ?_
      refine lv_aload_n hx hb dX5_writeBack_42 rfl (lv_at hl 1 rfl) ?_
      refine va_get (D := D) (ci := 5) (v := .ref h_log) (C := RX5) (T := TX5) (N := 19) hx hb hts inX5_writeBack_X5 hown hK hP 0 rfl rfl 12 (by decide) (hts _ lkX5_writeBack_4) (fun _ h9 => h9) rfl dX5_writeBack_43 ?_
      refine lv_aload_n hx hb dX5_writeBack_46 rfl (lv_at hl 1 rfl) ?_
      refine va_get (D := D) (ci := 5) (v := .int lg) (C := RX5) (T := TX5) (N := 19) hx hb hts inX5_writeBack_X5 hown hK hP 0 rfl rfl 11 (by decide) (hts _ lkX5_writeBack_1) (fun _ h9 => h9) rfl dX5_writeBack_47 ?_
      refine lv_iconst (v := 1) hx hb dX5_writeBack_50 (by decide) ?_
      refine lv_isub hx hb dX5_writeBack_51 ?_
      refine lv_iload_n hx hb dX5_writeBack_52 rfl (lv_at hl 0 rfl) ?_
      refine lv_isub hx hb dX5_writeBack_53 ?_
      obtain ⟨hi11, h⟩ := gin_e h
      refine va_iald hx hb hK hP 1 0 rfl rfl hi11 dX5_writeBack_54 ?_
      obtain ⟨v12, hq13, h⟩ := bd1_e h
      refine zz_cS (As := [.int (log ((lg - 1) - x4).toNatClampNeg)]) ⟨hx, hb, hml, hown, hts⟩ (kX5_opposite l D cI cZ cL (log ((lg - 1) - x4).toNatClampNeg) N hq13) (va_cwS 1 hts gX5_writeBack_X5_opposite rfl rfl rfl (by decide +kernel) ⟨Nat.le_of_ble_eq_true rfl, Nat.le_of_ble_eq_true rfl⟩) (hP.sub (ws' := []) [] rfl) hKK rfl hl.1 rfl (Nat.le_of_ble_eq_true rfl) dX5_writeBack_55 ⟨Nat.le_of_ble_eq_true rfl, Nat.le_of_ble_eq_true rfl⟩ ?_
      obtain ⟨hi14, h⟩ := gin_e h
      refine va_iast hx hb hK hP hD hS 2 0 rfl rfl hi14 dX5_writeBack_58 (fun H locs hP hD hS => ?_)
      have hP : va_P D vwCl [(h_m, .inr (5, [.int w5, .int nd, .int sw, .int so, .int lo, .ref a_one, .ref a_oth, .ref a_isb, .int cl, .int ea, .int on, .int lg, .ref h_log, .int w6, .ref h_seq, .int pe, .ref a_mho, .ref a_mih, .ref a_far])), (h_log, .inl (cI, 200, .inl log)), (h_seq, .inl (cI, 30, .inl (upd w7 x4.toNatClampNeg v12)))] H := hP
      have hD : va_D A [(h_m, .inr (5, [.int w5, .int nd, .int sw, .int so, .int lo, .ref a_one, .ref a_oth, .ref a_isb, .int cl, .int ea, .int on, .int lg, .ref h_log, .int w6, .ref h_seq, .int pe, .ref a_mho, .ref a_mih, .ref a_far])), (h_log, .inl (cI, 200, .inl log)), (h_seq, .inl (cI, 30, .inl (upd w7 x4.toNatClampNeg v12)))] := hD
      refine lv_iinc (v := x4 + 1) (lv' := [(1, .int (x4 + 1)), (0, .ref h_m)]) hx hb dX5_writeBack_59 hl (k := 0) rfl rfl (by decide) rfl (fun ls hl => ?_)
      refine lv_goto (tgt := 29) hx hb dX5_writeBack_62 (by decide) ?_
      exact hg29_9 (x4 + 1) w5 w6 (upd w7 x4.toNatClampNeg v12) h H locs ls hP hD hS (lv_sub hl [0, 1] rfl)
  · refine lv_icmp_ge (tgt := 22) hx hb dX5_writeBack_12 (by decide) (fun c15 => ?_) (fun c15 => ?_)
    · have h := it_t h c15
      refine lv_bipush (v := 30) hx hb dX5_writeBack_22 (by decide) ?_
      exact hg24_3 30 h H locs ls hP hD hS (lv_sub hl [0] rfl)
    · have h := it_f h c15
      refine lv_aload_n hx hb dX5_writeBack_15 rfl (lv_at hl 0 rfl) ?_
      refine va_get (D := D) (ci := 5) (v := .int lg) (C := RX5) (T := TX5) (N := 19) hx hb hts inX5_writeBack_X5 hown hK hP 0 rfl rfl 11 (by decide) (hts _ lkX5_writeBack_1) (fun _ h9 => h9) rfl dX5_writeBack_16 ?_
      refine lv_goto (tgt := 24) hx hb dX5_writeBack_19 (by decide) ?_
      exact hg24_3 lg h H locs ls hP hD hS (lv_sub hl [0] rfl)
