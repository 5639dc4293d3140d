def fX5_permit (N : Nat) (th : Int32) (nd : Int32) (sw : Int32) (so : Int32) (lo : Int32) (cl : Int32) (ea : Int32) (on : Int32) (lg : Int32) (wr : Int32) (pe : Int32) (one : Nat → Int32) (oth : Nat → Int32) (mho : Nat → Int32) (mih : Nat → Int32) (p0 : Int32) : Option ((Int32) × (Int32) × (Nat → Int32) × (Int32) × (Nat → Int32)) :=
  bd1 (fX5_in N  p0 1 (((1 : Int32) <<< (nd &&& 31)) - 1)) (fun v1 => jn1 (fun (y3 : Int32) => jn1 (fun (y6 : Int32) => it2 (fun g51_11 (x9 : Int32) (x10 : Int32) => jn2 (fun (x13 : Int32) (x14 : Int32) => jn1 (fun (y17 : Int32) => (if y17 ≤ 0 then gin pe 10 (gin pe 10 (some ((pe + 1) - 1, y17, upd mho pe.toNatClampNeg p0, pe + 1, upd mih pe.toNatClampNeg (vp_nar .boolean 1)))) else some (0, y17, mho, pe, mih))) (fun g143_18 => (if y3 ≤ 0 then (if x14 = 0 then g143_18 2 else g143_18 0) else g143_18 1))) (fun g122_15 => (if nd ≤ x9 then g122_15 x9 x10 else (if y3 = 0 then (if x10 = 0 then g51_11 (x9 + 1) 0 else bd1 (fX5_has N  p0 x9) (fun v28 => (if v28 = 0 then g51_11 (x9 + 1) 1 else bd1 (fX5_isEarthed N y3 nd sw so lo cl ea on lg wr pe one oth x9 cl ea) (fun v31 => (if v31 = 0 then g51_11 (x9 + 1) 0 else bd1 (fX5_isLive N y3 nd sw so lo cl ea on lg wr pe one oth x9 cl on) (fun v34 => (if v34 = 0 then g51_11 (x9 + 1) 1 else g51_11 (x9 + 1) 0))))))) else g122_15 x9 x10)))) N 0 y6) (fun g48_7 => (if 10 ≤ pe then g48_7 0 else bd1 (fX5_heldNow N y3 nd sw so lo cl ea on lg wr pe mho mih) (fun v38 => (if (p0 &&& v38) = 0 then g48_7 1 else g48_7 0))))) (fun g22_4 => (if v1 = 0 then g22_4 1 else g22_4 0)))
set_option maxRecDepth 100000 in
theorem inX5_permit_X5 : ∀ w ∈ wsX50, w ∈ wsX5_permit := by decide +kernel
set_option maxRecDepth 100000 in
theorem lkX5_permit_0 : (.fieldLink RX5 39 "SwitchlogModel" "nodes" "I" : Cond) ∈ wsX5_permit := by decide +kernel
set_option maxRecDepth 100000 in
theorem lkX5_permit_1 : (.fieldLink RX5 35 "SwitchlogModel" "thrown" "I" : Cond) ∈ wsX5_permit := by decide +kernel
set_option maxRecDepth 100000 in
theorem lkX5_permit_2 : (.fieldLink RX5 73 "SwitchlogModel" "permits" "I" : Cond) ∈ wsX5_permit := by decide +kernel
set_option maxRecDepth 100000 in
theorem lkX5_permit_3 : (.fieldLink RX5 26 "SwitchlogModel" "holds" "[I" : Cond) ∈ wsX5_permit := by decide +kernel
set_option maxRecDepth 100000 in
theorem lkX5_permit_4 : (.fieldLink RX5 29 "SwitchlogModel" "isHeld" "[Z" : Cond) ∈ wsX5_permit := by decide +kernel
set_option maxRecDepth 100000 in
theorem lkX5_permit_5 : (.fieldLink RX5 76 "SwitchlogModel" "closed" "I" : Cond) ∈ wsX5_permit := by decide +kernel
set_option maxRecDepth 100000 in
theorem lkX5_permit_6 : (.fieldLink RX5 79 "SwitchlogModel" "earths" "I" : Cond) ∈ wsX5_permit := by decide +kernel
set_option maxRecDepth 100000 in
theorem lkX5_permit_7 : (.fieldLink RX5 67 "SwitchlogModel" "on" "I" : Cond) ∈ wsX5_permit := by decide +kernel
abbrev rmX5_permit : Room := { frames := 3, cells := 0, slots := 0, locals := 70 }
set_option maxHeartbeats 4000000 in
set_option maxRecDepth 100000 in
theorem kX5_permit (l : Launch) (D : va_G) (cI cZ cL : ClassId) (sz0 : Nat) (h_m a_isb a_log a_seq a_far h_one h_oth h_mho h_mih : Nat) (th : Int32) (nd : Int32) (sw : Int32) (so : Int32) (lo : Int32) (cl : Int32) (ea : Int32) (on : Int32) (lg : Int32) (wr : Int32) (pe : Int32) (one : Nat → Int32) (oth : Nat → Int32) (mho : Nat → Int32) (mih : Nat → Int32) (p0 : Int32) (N : Nat) {r : Int32} {r_0 : Int32} {r_1 : Nat → Int32} {r_2 : Int32} {r_3 : Nat → Int32} (h : fX5_permit N th nd sw so lo cl ea on lg wr pe one oth mho mih p0 = some (r, r_0, r_1, r_2, r_3)) : Met l yX5_permit wsX5_permit rmX5_permit (PM D cI cZ cL [.ref h_m, .int p0] [(h_m, .inr (5, [.int th, .int nd, .int sw, .int so, .int lo, .ref h_one, .ref h_oth, .ref a_isb, .int cl, .int ea, .int on, .int lg, .ref a_log, .int wr, .ref a_seq, .int pe, .ref h_mho, .ref h_mih, .ref a_far])), (h_one, .inl (cI, 24, .inl one)), (h_oth, .inl (cI, 24, .inl oth)), (h_mho, .inl (cI, 10, .inl mho)), (h_mih, .inl (cZ, 10, .inl mih))] sz0) (QM D (some (.int r)) (va_A [(h_m, .inr (5, [.int th, .int nd, .int sw, .int so, .int lo, .ref h_one, .ref h_oth, .ref a_isb, .int cl, .int ea, .int on, .int lg, .ref a_log, .int wr, .ref a_seq, .int pe, .ref h_mho, .ref h_mih, .ref a_far])), (h_one, .inl (cI, 24, .inl one)), (h_oth, .inl (cI, 24, .inl oth)), (h_mho, .inl (cI, 10, .inl mho)), (h_mih, .inl (cZ, 10, .inl mih))] sz0) [(h_m, .inr (5, [.int r_0, .int nd, .int sw, .int so, .int lo, .ref h_one, .ref h_oth, .ref a_isb, .int cl, .int ea, .int on, .int lg, .ref a_log, .int wr, .ref a_seq, .int r_2, .ref h_mho, .ref h_mih, .ref a_far])), (h_one, .inl (cI, 24, .inl one)), (h_oth, .inl (cI, 24, .inl oth)), (h_mho, .inl (cI, 10, .inl r_1)), (h_mih, .inl (cZ, 10, .inl r_3))]) 0 0 (va_A [(h_m, .inr (5, [.int th, .int nd, .int sw, .int so, .int lo, .ref h_one, .ref h_oth, .ref a_isb, .int cl, .int ea, .int on, .int lg, .ref a_log, .int wr, .ref a_seq, .int pe, .ref h_mho, .ref h_mih, .ref a_far])), (h_one, .inl (cI, 24, .inl one)), (h_oth, .inl (cI, 24, .inl oth)), (h_mho, .inl (cI, 10, .inl mho)), (h_mih, .inl (cZ, 10, .inl mih))] sz0) := by
  refine Met.ofW (cc := cX5_permit) (maxL := 4) (ret := (some .int)) (by decide) rfl ?_
  intro p e s m args below meth c s₁ B hml hv
  obtain ⟨rfl, hsz, hP, hKK, hD0⟩ := hv
  have hK := hKK.1
  have hx := B.exec
  have hb := B.bytes
  have hr := B.returns
  have hts := atoms_spec (ws := wsX5_permit) B.pre
  have hown : s.vm.findClass RX5 = some m.cls := findClass_of_methodNamed B.named
  have hlocks := B.notSynchronized
  subst hsz
  have hD := hD0.self (sz := s.heap.size)
  generalize hAe : va_A [(h_m, .inr (5, [.int th, .int nd, .int sw, .int so, .int lo, .ref h_one, .ref h_oth, .ref a_isb, .int cl, .int ea, .int on, .int lg, .ref a_log, .int wr, .ref a_seq, .int pe, .ref h_mho, .ref h_mih, .ref a_far])), (h_one, .inl (cI, 24, .inl one)), (h_oth, .inl (cI, 24, .inl oth)), (h_mho, .inl (cI, 10, .inl mho)), (h_mih, .inl (cZ, 10, .inl mih))] s.heap.size = A at hD ⊢
  have hA : ∀ q : Nat, s.heap.size ≤ q → A q := fun q h => by rw [← hAe]; exact Or.inr h
  have hS : va_S A s.heap s.heap [] := va_S.rf
  have hl := lv_entry ([.ref h_m, .int p0]) (n := 4) (Nat.le_of_ble_eq_true rfl)
  rw [lg_entry_eq]
  generalize (lg_sl ([.ref h_m, .int p0]) ++ List.replicate (4 - (lg_sl ([.ref h_m, .int p0])).length) Slot.unset).toArray = ls at hl ⊢
  have hl : lv_has ls 4 [(0, .ref h_m), (1, .int p0)] := hl
  obtain ⟨QQ, hQQ⟩ : ∃ Z, Z = MQ below (QM D (some (.int r)) A [(h_m, .inr (5, [.int r_0, .int nd, .int sw, .int so, .int lo, .ref h_one, .ref h_oth, .ref a_isb, .int cl, .int ea, .int on, .int lg, .ref a_log, .int wr, .ref a_seq, .int r_2, .ref h_mho, .ref h_mih, .ref a_far])), (h_one, .inl (cI, 24, .inl one)), (h_oth, .inl (cI, 24, .inl oth)), (h_mho, .inl (cI, 10, .inl r_1)), (h_mih, .inl (cZ, 10, .inl r_3))]) ([.ref h_m, .int p0] : List Value).toArray s 0 0 A := ⟨_, rfl⟩
  rw [← hQQ]
  obtain ⟨H, locs, hHe, hLe⟩ : ∃ (H : Heap) (locs : List Loc), H = s.heap ∧ locs = [] := ⟨_, _, rfl, rfl⟩
  have hP : va_P D vwCl [(h_m, .inr (5, [.int th, .int nd, .int sw, .int so, .int lo, .ref h_one, .ref h_oth, .ref a_isb, .int cl, .int ea, .int on, .int lg, .ref a_log, .int wr, .ref a_seq, .int pe, .ref h_mho, .ref h_mih, .ref a_far])), (h_one, .inl (cI, 24, .inl one)), (h_oth, .inl (cI, 24, .inl oth)), (h_mho, .inl (cI, 10, .inl mho)), (h_mih, .inl (cZ, 10, .inl mih))] H := by rw [hHe]; exact hP
  have hS : va_S A s.heap H locs := by rw [hHe, hLe]; exact hS
  have hW0 : ∀ QQ : State → Prop, W p l e (headSpec wsX5_permit rmX5_permit).room s m (([.ref h_m, .int p0] : List Value).toArray) below meth c H locs 0 0 QQ (F0 m 0 ls []) → W p l e (headSpec wsX5_permit rmX5_permit).room s m (([.ref h_m, .int p0] : List Value).toArray) below meth c s.heap [] 0 0 QQ (F0 m 0 ls []) := by rw [hHe, hLe]; exact fun _ h => h
  refine hW0 _ ?_
  clear hW0
  unfold fX5_permit at h
  refine lv_aload_n hx hb dX5_permit_0 rfl (lv_at hl 0 rfl) ?_
  refine lv_iload_n hx hb dX5_permit_1 rfl (lv_at hl 1 rfl) ?_
  refine lv_iconst (v := 1) hx hb dX5_permit_2 (by decide) ?_
  refine lv_iconst (v := 1) hx hb dX5_permit_3 (by decide) ?_
  refine lv_aload_n hx hb dX5_permit_4 rfl (lv_at hl 0 rfl) ?_
  refine va_get (D := D) (ci := 5) (v := .int nd) (C := RX5) (T := TX5) (N := 19) hx hb hts inX5_permit_X5 hown hK hP 0 rfl rfl 1 (by decide) (hts _ lkX5_permit_0) (fun _ h9 => h9) rfl dX5_permit_5 ?_
  refine lv_ishl hx hb dX5_permit_8 ?_
  refine lv_iconst (v := 1) hx hb dX5_permit_9 (by decide) ?_
  refine lv_isub hx hb dX5_permit_10 ?_
  obtain ⟨v1, hq2, h⟩ := bd1_e h
  refine zz_cS (As := [.int p0, .int 1, .int (((1 : Int32) <<< (nd &&& 31)) - 1)]) ⟨hx, hb, hml, hown, hts⟩ (kX5_in l D cI cZ cL p0 1 (((1 : Int32) <<< (nd &&& 31)) - 1) N hq2) (va_cwS 3 hts gX5_permit_X5_in rfl rfl rfl (by decide +kernel) ⟨Nat.le_of_ble_eq_true rfl, Nat.le_of_ble_eq_true rfl⟩) (hP.sub (ws' := []) [] rfl) hKK rfl hl.1 rfl (Nat.le_of_ble_eq_true rfl) dX5_permit_11 ⟨Nat.le_of_ble_eq_true rfl, Nat.le_of_ble_eq_true rfl⟩ ?_
  refine jn1_e (fun (y3 : Int32) => ∀ (H : Heap) (locs : List Loc) (ls : Array Slot), va_P D vwCl [(h_m, .inr (5, [.int th, .int nd, .int sw, .int so, .int lo, .ref h_one, .ref h_oth, .ref a_isb, .int cl, .int ea, .int on, .int lg, .ref a_log, .int wr, .ref a_seq, .int pe, .ref h_mho, .ref h_mih, .ref a_far])), (h_one, .inl (cI, 24, .inl one)), (h_oth, .inl (cI, 24, .inl oth)), (h_mho, .inl (cI, 10, .inl mho)), (h_mih, .inl (cZ, 10, .inl mih))] H → va_D A [(h_m, .inr (5, [.int th, .int nd, .int sw, .int so, .int lo, .ref h_one, .ref h_oth, .ref a_isb, .int cl, .int ea, .int on, .int lg, .ref a_log, .int wr, .ref a_seq, .int pe, .ref h_mho, .ref h_mih, .ref a_far])), (h_one, .inl (cI, 24, .inl one)), (h_oth, .inl (cI, 24, .inl oth)), (h_mho, .inl (cI, 10, .inl mho)), (h_mih, .inl (cZ, 10, .inl mih))] → va_S A s.heap H locs → lv_has ls 4 [(0, .ref h_m), (1, .int p0)] → W p l e (headSpec wsX5_permit rmX5_permit).room s m (([.ref h_m, .int p0] : List Value).toArray) below meth c H locs 0 0 QQ (F0 m 22 ls [.int y3, .ref h_m])) h (fun y3 h H locs ls hP hD hS hl => ?_) (fun g22_4 hg22_5 h => ?_)
  · refine va_put (D := D) (ci := 5) (v := .int y3) (ty := .int) (C := RX5) (T := TX5) (N := 19) hx hb hts inX5_permit_X5 tyX5 tyX5_ok nmX5 hown hK hP hD hS 0 rfl rfl 0 (by decide) (hts _ lkX5_permit_1) (fun _ h9 => h9) rfl (by decide +kernel) rfl rfl (Nat.le_of_ble_eq_true rfl) dX5_permit_22 (fun H locs hP hD hS => ?_)
    have hP : va_P D vwCl [(h_m, .inr (5, [.int y3, .int nd, .int sw, .int so, .int lo, .ref h_one, .ref h_oth, .ref a_isb, .int cl, .int ea, .int on, .int lg, .ref a_log, .int wr, .ref a_seq, .int pe, .ref h_mho, .ref h_mih, .ref a_far])), (h_one, .inl (cI, 24, .inl one)), (h_oth, .inl (cI, 24, .inl oth)), (h_mho, .inl (cI, 10, .inl mho)), (h_mih, .inl (cZ, 10, .inl mih))] H := hP
    have hD : va_D A [(h_m, .inr (5, [.int y3, .int nd, .int sw, .int so, .int lo, .ref h_one, .ref h_oth, .ref a_isb, .int cl, .int ea, .int on, .int lg, .ref a_log, .int wr, .ref a_seq, .int pe, .ref h_mho, .ref h_mih, .ref a_far])), (h_one, .inl (cI, 24, .inl one)), (h_oth, .inl (cI, 24, .inl oth)), (h_mho, .inl (cI, 10, .inl mho)), (h_mih, .inl (cZ, 10, .inl mih))] := hD
    refine lv_aload_n hx hb dX5_permit_25 rfl (lv_at hl 0 rfl) ?_
    refine va_get (D := D) (ci := 5) (v := .int pe) (C := RX5) (T := TX5) (N := 19) hx hb hts inX5_permit_X5 hown hK hP 0 rfl rfl 15 (by decide) (hts _ lkX5_permit_2) (fun _ h9 => h9) rfl dX5_permit_26 ?_
    refine lv_bipush (v := 10) hx hb dX5_permit_29 (by decide) ?_
    refine jn1_e (fun (y6 : Int32) => ∀ (H : Heap) (locs : List Loc) (ls : Array Slot), va_P D vwCl [(h_m, .inr (5, [.int y3, .int nd, .int sw, .int so, .int lo, .ref h_one, .ref h_oth, .ref a_isb, .int cl, .int ea, .int on, .int lg, .ref a_log, .int wr, .ref a_seq, .int pe, .ref h_mho, .ref h_mih, .ref a_far])), (h_one, .inl (cI, 24, .inl one)), (h_oth, .inl (cI, 24, .inl oth)), (h_mho, .inl (cI, 10, .inl mho)), (h_mih, .inl (cZ, 10, .inl mih))] H → va_D A [(h_m, .inr (5, [.int y3, .int nd, .int sw, .int so, .int lo, .ref h_one, .ref h_oth, .ref a_isb, .int cl, .int ea, .int on, .int lg, .ref a_log, .int wr, .ref a_seq, .int pe, .ref h_mho, .ref h_mih, .ref a_far])), (h_one, .inl (cI, 24, .inl one)), (h_oth, .inl (cI, 24, .inl oth)), (h_mho, .inl (cI, 10, .inl mho)), (h_mih, .inl (cZ, 10, .inl mih))] → va_S A s.heap H locs → lv_has ls 4 [(0, .ref h_m), (1, .int p0)] → W p l e (headSpec wsX5_permit rmX5_permit).room s m (([.ref h_m, .int p0] : List Value).toArray) below meth c H locs 0 0 QQ (F0 m 48 ls [.int y6])) h (fun y6 h H locs ls hP hD hS hl => ?_) (fun g48_7 hg48_8 h => ?_)
    · refine lv_istore_n (lv' := [(2, .int y6), (0, .ref h_m), (1, .int p0)]) hx hb dX5_permit_48 rfl hl (by decide) rfl (fun ls hl => ?_)
      refine lv_iconst (v := 0) hx hb dX5_permit_49 (by decide) ?_
      refine lv_istore_n (lv' := [(3, .int 0), (2, .int y6), (0, .ref h_m), (1, .int p0)]) hx hb dX5_permit_50 rfl hl (by decide) rfl (fun ls hl => ?_)
      refine it2_e (fun (x9 : Int32) (x10 : Int32) => ∀ (H : Heap) (locs : List Loc) (ls : Array Slot), va_P D vwCl [(h_m, .inr (5, [.int y3, .int nd, .int sw, .int so, .int lo, .ref h_one, .ref h_oth, .ref a_isb, .int cl, .int ea, .int on, .int lg, .ref a_log, .int wr, .ref a_seq, .int pe, .ref h_mho, .ref h_mih, .ref a_far])), (h_one, .inl (cI, 24, .inl one)), (h_oth, .inl (cI, 24, .inl oth)), (h_mho, .inl (cI, 10, .inl mho)), (h_mih, .inl (cZ, 10, .inl mih))] H → va_D A [(h_m, .inr (5, [.int y3, .int nd, .int sw, .int so, .int lo, .ref h_one, .ref h_oth, .ref a_isb, .int cl, .int ea, .int on, .int lg, .ref a_log, .int wr, .ref a_seq, .int pe, .ref h_mho, .ref h_mih, .ref a_far])), (h_one, .inl (cI, 24, .inl one)), (h_oth, .inl (cI, 24, .inl oth)), (h_mho, .inl (cI, 10, .inl mho)), (h_mih, .inl (cZ, 10, .inl mih))] → va_S A s.heap H locs → lv_has ls 4 [(3, .int x9), (2, .int x10), (0, .ref h_m), (1, .int p0)] → W p l e (headSpec wsX5_permit rmX5_permit).room s m (([.ref h_m, .int p0] : List Value).toArray) below meth c H locs 0 0 QQ (F0 m 51 ls [])) (fun g51_11 hg51_12 x9 x10 h H locs ls hP hD hS hl => ?_) N 0 y6 h H locs ls hP hD hS (lv_sub hl [0, 1, 2, 3] rfl)
      refine lv_iload_n hx hb dX5_permit_51 rfl (lv_at hl 0 rfl) ?_
      refine lv_aload_n hx hb dX5_permit_52 rfl (lv_at hl 2 rfl) ?_
      refine va_get (D := D) (ci := 5) (v := .int nd) (C := RX5) (T := TX5) (N := 19) hx hb hts inX5_permit_X5 hown hK hP 0 rfl rfl 1 (by decide) (hts _ lkX5_permit_0) (fun _ h9 => h9) rfl dX5_permit_53 ?_
      refine jn2_e (fun (x13 : Int32) (x14 : Int32) => ∀ (H : Heap) (locs : List Loc) (ls : Array Slot), va_P D vwCl [(h_m, .inr (5, [.int y3, .int nd, .int sw, .int so, .int lo, .ref h_one, .ref h_oth, .ref a_isb, .int cl, .int ea, .int on, .int lg, .ref a_log, .int wr, .ref a_seq, .int pe, .ref h_mho, .ref h_mih, .ref a_far])), (h_one, .inl (cI, 24, .inl one)), (h_oth, .inl (cI, 24, .inl oth)), (h_mho, .inl (cI, 10, .inl mho)), (h_mih, .inl (cZ, 10, .inl mih))] H → va_D A [(h_m, .inr (5, [.int y3, .int nd, .int sw, .int so, .int lo, .ref h_one, .ref h_oth, .ref a_isb, .int cl, .int ea, .int on, .int lg, .ref a_log, .int wr, .ref a_seq, .int pe, .ref h_mho, .ref h_mih, .ref a_far])), (h_one, .inl (cI, 24, .inl one)), (h_oth, .inl (cI, 24, .inl oth)), (h_mho, .inl (cI, 10, .inl mho)), (h_mih, .inl (cZ, 10, .inl mih))] → va_S A s.heap H locs → lv_has ls 4 [(3, .int x13), (2, .int x14), (0, .ref h_m), (1, .int p0)] → W p l e (headSpec wsX5_permit rmX5_permit).room s m (([.ref h_m, .int p0] : List Value).toArray) below meth c H locs 0 0 QQ (F0 m 122 ls [])) h (fun x13 x14 h H locs ls hP hD hS hl => ?_) (fun g122_15 hg122_16 h => ?_)
      · refine lv_aload_n hx hb dX5_permit_122 rfl (lv_at hl 2 rfl) ?_
        refine lv_aload_n hx hb dX5_permit_123 rfl (lv_at hl 2 rfl) ?_
        refine va_get (D := D) (ci := 5) (v := .int y3) (C := RX5) (T := TX5) (N := 19) hx hb hts inX5_permit_X5 hown hK hP 0 rfl rfl 0 (by decide) (hts _ lkX5_permit_1) (fun _ h9 => h9) rfl dX5_permit_124 ?_
        refine jn1_e (fun (y17 : Int32) => ∀ (H : Heap) (locs : List Loc) (ls : Array Slot), va_P D vwCl [(h_m, .inr (5, [.int y3, .int nd, .int sw, .int so, .int lo, .ref h_one, .ref h_oth, .ref a_isb, .int cl, .int ea, .int on, .int lg, .ref a_log, .int wr, .ref a_seq, .int pe, .ref h_mho, .ref h_mih, .ref a_far])), (h_one, .inl (cI, 24, .inl one)), (h_oth, .inl (cI, 24, .inl oth)), (h_mho, .inl (cI, 10, .inl mho)), (h_mih, .inl (cZ, 10, .inl mih))] H → va_D A [(h_m, .inr (5, [.int y3, .int nd, .int sw, .int so, .int lo, .ref h_one, .ref h_oth, .ref a_isb, .int cl, .int ea, .int on, .int lg, .ref a_log, .int wr, .ref a_seq, .int pe, .ref h_mho, .ref h_mih, .ref a_far])), (h_one, .inl (cI, 24, .inl one)), (h_oth, .inl (cI, 24, .inl oth)), (h_mho, .inl (cI, 10, .inl mho)), (h_mih, .inl (cZ, 10, .inl mih))] → va_S A s.heap H locs → lv_has ls 4 [(3, .int x13), (2, .int x14), (0, .ref h_m), (1, .int p0)] → W p l e (headSpec wsX5_permit rmX5_permit).room s m (([.ref h_m, .int p0] : List Value).toArray) below meth c H locs 0 0 QQ (F0 m 143 ls [.int y17, .ref h_m])) h (fun y17 h H locs ls hP hD hS hl => ?_) (fun g143_18 hg143_19 h => ?_)
        · refine va_put (D := D) (ci := 5) (v := .int y17) (ty := .int) (C := RX5) (T := TX5) (N := 19) hx hb hts inX5_permit_X5 tyX5 tyX5_ok nmX5 hown hK hP hD hS 0 rfl rfl 0 (by decide) (hts _ lkX5_permit_1) (fun _ h9 => h9) rfl (by decide +kernel) rfl rfl (Nat.le_of_ble_eq_true rfl) dX5_permit_143 (fun H locs hP hD hS => ?_)
          have hP : va_P D vwCl [(h_m, .inr (5, [.int y17, .int nd, .int sw, .int so, .int lo, .ref h_one, .ref h_oth, .ref a_isb, .int cl, .int ea, .int on, .int lg, .ref a_log, .int wr, .ref a_seq, .int pe, .ref h_mho, .ref h_mih, .ref a_far])), (h_one, .inl (cI, 24, .inl one)), (h_oth, .inl (cI, 24, .inl oth)), (h_mho, .inl (cI, 10, .inl mho)), (h_mih, .inl (cZ, 10, .inl mih))] H := hP
          have hD : va_D A [(h_m, .inr (5, [.int y17, .int nd, .int sw, .int so, .int lo, .ref h_one, .ref h_oth, .ref a_isb, .int cl, .int ea, .int on, .int lg, .ref a_log, .int wr, .ref a_seq, .int pe, .ref h_mho, .ref h_mih, .ref a_far])), (h_one, .inl (cI, 24, .inl one)), (h_oth, .inl (cI, 24, .inl oth)), (h_mho, .inl (cI, 10, .inl mho)), (h_mih, .inl (cZ, 10, .inl mih))] := hD
          refine lv_aload_n hx hb dX5_permit_146 rfl (lv_at hl 2 rfl) ?_
          refine va_get (D := D) (ci := 5) (v := .int y17) (C := RX5) (T := TX5) (N := 19) hx hb hts inX5_permit_X5 hown hK hP 0 rfl rfl 0 (by decide) (hts _ lkX5_permit_1) (fun _ h9 => h9) rfl dX5_permit_147 ?_
          refine lv_if_le (tgt := 155) hx hb dX5_permit_150 (by decide) (fun c20 => ?_) (fun c20 => ?_)
          · have h := it_t h c20
            refine lv_aload_n hx hb dX5_permit_155 rfl (lv_at hl 2 rfl) ?_
            refine va_get (D := D) (ci := 5) (v := .ref h_mho) (C := RX5) (T := TX5) (N := 19) hx hb hts inX5_permit_X5 hown hK hP 0 rfl rfl 16 (by decide) (hts _ lkX5_permit_3) (fun _ h9 => h9) rfl dX5_permit_156 ?_
            refine lv_aload_n hx hb dX5_permit_159 rfl (lv_at hl 2 rfl) ?_
            refine va_get (D := D) (ci := 5) (v := .int pe) (C := RX5) (T := TX5) (N := 19) hx hb hts inX5_permit_X5 hown hK hP 0 rfl rfl 15 (by decide) (hts _ lkX5_permit_2) (fun _ h9 => h9) rfl dX5_permit_160 ?_
            refine lv_iload_n hx hb dX5_permit_163 rfl (lv_at hl 3 rfl) ?_
            obtain ⟨hi21, h⟩ := gin_e h
            refine va_iast hx hb hK hP hD hS 3 0 rfl rfl hi21 dX5_permit_164 (fun H locs hP hD hS => ?_)
            have hP : va_P D vwCl [(h_m, .inr (5, [.int y17, .int nd, .int sw, .int so, .int lo, .ref h_one, .ref h_oth, .ref a_isb, .int cl, .int ea, .int on, .int lg, .ref a_log, .int wr, .ref a_seq, .int pe, .ref h_mho, .ref h_mih, .ref a_far])), (h_one, .inl (cI, 24, .inl one)), (h_oth, .inl (cI, 24, .inl oth)), (h_mho, .inl (cI, 10, .inl (upd mho pe.toNatClampNeg p0))), (h_mih, .inl (cZ, 10, .inl mih))] H := hP
            have hD : va_D A [(h_m, .inr (5, [.int y17, .int nd, .int sw, .int so, .int lo, .ref h_one, .ref h_oth, .ref a_isb, .int cl, .int ea, .int on, .int lg, .ref a_log, .int wr, .ref a_seq, .int pe, .ref h_mho, .ref h_mih, .ref a_far])), (h_one, .inl (cI, 24, .inl one)), (h_oth, .inl (cI, 24, .inl oth)), (h_mho, .inl (cI, 10, .inl (upd mho pe.toNatClampNeg p0))), (h_mih, .inl (cZ, 10, .inl mih))] := hD
            refine lv_aload_n hx hb dX5_permit_165 rfl (lv_at hl 2 rfl) ?_
            refine va_get (D := D) (ci := 5) (v := .ref h_mih) (C := RX5) (T := TX5) (N := 19) hx hb hts inX5_permit_X5 hown hK hP 0 rfl rfl 17 (by decide) (hts _ lkX5_permit_4) (fun _ h9 => h9) rfl dX5_permit_166 ?_
            refine lv_aload_n hx hb dX5_permit_169 rfl (lv_at hl 2 rfl) ?_
            refine va_get (D := D) (ci := 5) (v := .int pe) (C := RX5) (T := TX5) (N := 19) hx hb hts inX5_permit_X5 hown hK hP 0 rfl rfl 15 (by decide) (hts _ lkX5_permit_2) (fun _ h9 => h9) rfl dX5_permit_170 ?_
            refine lv_iconst (v := 1) hx hb dX5_permit_173 (by decide) ?_
            obtain ⟨hi22, h⟩ := gin_e h
            refine va_zast hx hb hK hP hD hS 4 1 rfl rfl hi22 dX5_permit_174 (fun H locs hP hD hS => ?_)
            have hP : va_P D vwCl [(h_m, .inr (5, [.int y17, .int nd, .int sw, .int so, .int lo, .ref h_one, .ref h_oth, .ref a_isb, .int cl, .int ea, .int on, .int lg, .ref a_log, .int wr, .ref a_seq, .int pe, .ref h_mho, .ref h_mih, .ref a_far])), (h_one, .inl (cI, 24, .inl one)), (h_oth, .inl (cI, 24, .inl oth)), (h_mho, .inl (cI, 10, .inl (upd mho pe.toNatClampNeg p0))), (h_mih, .inl (cZ, 10, .inl (upd mih pe.toNatClampNeg (vp_nar .boolean 1))))] H := hP
            have hD : va_D A [(h_m, .inr (5, [.int y17, .int nd, .int sw, .int so, .int lo, .ref h_one, .ref h_oth, .ref a_isb, .int cl, .int ea, .int on, .int lg, .ref a_log, .int wr, .ref a_seq, .int pe, .ref h_mho, .ref h_mih, .ref a_far])), (h_one, .inl (cI, 24, .inl one)), (h_oth, .inl (cI, 24, .inl oth)), (h_mho, .inl (cI, 10, .inl (upd mho pe.toNatClampNeg p0))), (h_mih, .inl (cZ, 10, .inl (upd mih pe.toNatClampNeg (vp_nar .boolean 1))))] := hD
            refine lv_aload_n hx hb dX5_permit_175 rfl (lv_at hl 2 rfl) ?_
            refine lv_dup hx hb dX5_permit_176 rfl ?_
            refine va_get (D := D) (ci := 5) (v := .int pe) (C := RX5) (T := TX5) (N := 19) hx hb hts inX5_permit_X5 hown hK hP 0 rfl rfl 15 (by decide) (hts _ lkX5_permit_2) (fun _ h9 => h9) rfl dX5_permit_177 ?_
            refine lv_iconst (v := 1) hx hb dX5_permit_180 (by decide) ?_
            refine lv_iadd hx hb dX5_permit_181 ?_
            refine va_put (D := D) (ci := 5) (v := .int (pe + 1)) (ty := .int) (C := RX5) (T := TX5) (N := 19) hx hb hts inX5_permit_X5 tyX5 tyX5_ok nmX5 hown hK hP hD hS 0 rfl rfl 15 (by decide) (hts _ lkX5_permit_2) (fun _ h9 => h9) rfl (by decide +kernel) rfl rfl (Nat.le_of_ble_eq_true rfl) dX5_permit_182 (fun H locs hP hD hS => ?_)
            have hP : va_P D vwCl [(h_m, .inr (5, [.int y17, .int nd, .int sw, .int so, .int lo, .ref h_one, .ref h_oth, .ref a_isb, .int cl, .int ea, .int on, .int lg, .ref a_log, .int wr, .ref a_seq, .int (pe + 1), .ref h_mho, .ref h_mih, .ref a_far])), (h_one, .inl (cI, 24, .inl one)), (h_oth, .inl (cI, 24, .inl oth)), (h_mho, .inl (cI, 10, .inl (upd mho pe.toNatClampNeg p0))), (h_mih, .inl (cZ, 10, .inl (upd mih pe.toNatClampNeg (vp_nar .boolean 1))))] H := hP
            have hD : va_D A [(h_m, .inr (5, [.int y17, .int nd, .int sw, .int so, .int lo, .ref h_one, .ref h_oth, .ref a_isb, .int cl, .int ea, .int on, .int lg, .ref a_log, .int wr, .ref a_seq, .int (pe + 1), .ref h_mho, .ref h_mih, .ref a_far])), (h_one, .inl (cI, 24, .inl one)), (h_oth, .inl (cI, 24, .inl oth)), (h_mho, .inl (cI, 10, .inl (upd mho pe.toNatClampNeg p0))), (h_mih, .inl (cZ, 10, .inl (upd mih pe.toNatClampNeg (vp_nar .boolean 1))))] := hD
            refine lv_aload_n hx hb dX5_permit_185 rfl (lv_at hl 2 rfl) ?_
            refine va_get (D := D) (ci := 5) (v := .int (pe + 1)) (C := RX5) (T := TX5) (N := 19) hx hb hts inX5_permit_X5 hown hK hP 0 rfl rfl 15 (by decide) (hts _ lkX5_permit_2) (fun _ h9 => h9) rfl dX5_permit_186 ?_
            refine lv_iconst (v := 1) hx hb dX5_permit_189 (by decide) ?_
            refine lv_isub hx hb dX5_permit_190 ?_
            cases h
            rw [hQQ]
            exact W.iret hx hb hr (fun t ht hW => ⟨rfl, by rw [ht]; exact hP, hD, hS.F ht⟩) hS.2.2 dX5_permit_191
          · have h := it_f h c20
            refine lv_iconst (v := 0) hx hb dX5_permit_153 (by decide) ?_
            cases h
            rw [hQQ]
            exact W.iret hx hb hr (fun t ht hW => ⟨rfl, by rw [ht]; exact hP, hD, hS.F ht⟩) hS.2.2 dX5_permit_154
        · refine lv_if_le (tgt := 134) hx hb dX5_permit_127 (by decide) (fun c23 => ?_) (fun c23 => ?_)
          · have h := it_t h c23
            refine lv_iload_n hx hb dX5_permit_134 rfl (lv_at hl 1 rfl) ?_
            refine lv_if_eq (tgt := 142) hx hb dX5_permit_135 (by decide) (fun c24 => ?_) (fun c24 => ?_)
            · have h := it_t h c24
              refine lv_iconst (v := 2) hx hb dX5_permit_142 (by decide) ?_
              exact hg143_19 2 h H locs ls hP hD hS (lv_sub hl [0, 1, 2, 3] rfl)
            · have h := it_f h c24
              refine lv_iconst (v := 0) hx hb dX5_permit_138 (by decide) ?_
              refine lv_goto (tgt := 143) hx hb dX5_permit_139 (by decide) ?_
              exact hg143_19 0 h H locs ls hP hD hS (lv_sub hl [0, 1, 2, 3] rfl)
          · have h := it_f h c23
            refine lv_iconst (v := 1) hx hb dX5_permit_130 (by decide) ?_
            refine lv_goto (tgt := 143) hx hb dX5_permit_131 (by decide) ?_
            exact hg143_19 1 h H locs ls hP hD hS (lv_sub hl [0, 1, 2, 3] rfl)
      · refine lv_icmp_ge (tgt := 122) hx hb dX5_permit_56 (by decide) (fun c25 => ?_) (fun c25 => ?_)
        · have h := it_t h c25
          exact hg122_16 x9 x10 h H locs ls hP hD hS (lv_sub hl [0, 1, 2, 3] rfl)
        · have h := it_f h c25
          refine lv_aload_n hx hb dX5_permit_59 rfl (lv_at hl 2 rfl) ?_
          refine va_get (D := D) (ci := 5) (v := .int y3) (C := RX5) (T := TX5) (N := 19) hx hb hts inX5_permit_X5 hown hK hP 0 rfl rfl 0 (by decide) (hts _ lkX5_permit_1) (fun _ h9 => h9) rfl dX5_permit_60 ?_
          refine lv_if_ne (tgt := 122) hx hb dX5_permit_63 (by decide) (fun c26 => ?_) (fun c26 => ?_)
          · have h := it_f h c26
            exact hg122_16 x9 x10 h H locs ls hP hD hS (lv_sub hl [0, 1, 2, 3] rfl)
          · have h := it_t h c26
            refine lv_iload_n hx hb dX5_permit_66 rfl (lv_at hl 1 rfl) ?_
            refine lv_if_eq (tgt := 114) hx hb dX5_permit_67 (by decide) (fun c27 => ?_) (fun c27 => ?_)
            · have h := it_t h c27
              refine lv_iconst (v := 0) hx hb dX5_permit_114 (by decide) ?_
              refine lv_istore_n (lv' := [(2, .int 0), (3, .int x9), (0, .ref h_m), (1, .int p0)]) hx hb dX5_permit_115 rfl hl (by decide) rfl (fun ls hl => ?_)
              refine lv_iinc (v := x9 + 1) (lv' := [(3, .int (x9 + 1)), (2, .int 0), (0, .ref h_m), (1, .int p0)]) hx hb dX5_permit_116 hl (k := 1) rfl rfl (by decide) rfl (fun ls hl => ?_)
              refine lv_goto (tgt := 51) hx hb dX5_permit_119 (by decide) ?_
              exact hg51_12 (x9 + 1) 0 h H locs ls hP hD hS (lv_sub hl [0, 1, 2, 3] rfl)
            · have h := it_f h c27
              refine lv_iload_n hx hb dX5_permit_70 rfl (lv_at hl 3 rfl) ?_
              refine lv_iload_n hx hb dX5_permit_71 rfl (lv_at hl 0 rfl) ?_
              obtain ⟨v28, hq29, h⟩ := bd1_e h
              refine zz_cS (As := [.int p0, .int x9]) ⟨hx, hb, hml, hown, hts⟩ (kX5_has l D cI cZ cL p0 x9 N hq29) (va_cwS 2 hts gX5_permit_X5_has rfl rfl rfl (by decide +kernel) ⟨Nat.le_of_ble_eq_true rfl, Nat.le_of_ble_eq_true rfl⟩) (hP.sub (ws' := []) [] rfl) hKK rfl hl.1 rfl (Nat.le_of_ble_eq_true rfl) dX5_permit_72 ⟨Nat.le_of_ble_eq_true rfl, Nat.le_of_ble_eq_true rfl⟩ ?_
              refine lv_if_eq (tgt := 110) hx hb dX5_permit_75 (by decide) (fun c30 => ?_) (fun c30 => ?_)
              · have h := it_t h c30
                refine lv_iconst (v := 1) hx hb dX5_permit_110 (by decide) ?_
                refine lv_goto (tgt := 115) hx hb dX5_permit_111 (by decide) ?_
                refine lv_istore_n (lv' := [(2, .int 1), (3, .int x9), (0, .ref h_m), (1, .int p0)]) hx hb dX5_permit_115 rfl hl (by decide) rfl (fun ls hl => ?_)
                refine lv_iinc (v := x9 + 1) (lv' := [(3, .int (x9 + 1)), (2, .int 1), (0, .ref h_m), (1, .int p0)]) hx hb dX5_permit_116 hl (k := 1) rfl rfl (by decide) rfl (fun ls hl => ?_)
                refine lv_goto (tgt := 51) hx hb dX5_permit_119 (by decide) ?_
                exact hg51_12 (x9 + 1) 1 h H locs ls hP hD hS (lv_sub hl [0, 1, 2, 3] rfl)
              · have h := it_f h c30
                refine lv_aload_n hx hb dX5_permit_78 rfl (lv_at hl 2 rfl) ?_
                refine lv_iload_n hx hb dX5_permit_79 rfl (lv_at hl 0 rfl) ?_
                refine lv_aload_n hx hb dX5_permit_80 rfl (lv_at hl 2 rfl) ?_
                refine va_get (D := D) (ci := 5) (v := .int cl) (C := RX5) (T := TX5) (N := 19) hx hb hts inX5_permit_X5 hown hK hP 0 rfl rfl 8 (by decide) (hts _ lkX5_permit_5) (fun _ h9 => h9) rfl dX5_permit_81 ?_
                refine lv_aload_n hx hb dX5_permit_84 rfl (lv_at hl 2 rfl) ?_
                refine va_get (D := D) (ci := 5) (v := .int ea) (C := RX5) (T := TX5) (N := 19) hx hb hts inX5_permit_X5 hown hK hP 0 rfl rfl 9 (by decide) (hts _ lkX5_permit_6) (fun _ h9 => h9) rfl dX5_permit_85 ?_
                obtain ⟨v31, hq32, h⟩ := bd1_e h
                refine zz_cV (As := [.int x9, .int cl, .int ea]) ⟨hx, hb, hml, hown, hts⟩ (kX5_isEarthed l D cI cZ cL h_m a_isb a_log a_seq h_mho h_mih a_far h_one h_oth y3 nd sw so lo cl ea on lg wr pe one oth x9 cl ea N hq32) (cwV 3 hts gX5_permit_X5_isEarthed rfl rfl rfl (by decide +kernel) ⟨Nat.le_of_ble_eq_true rfl, Nat.le_of_ble_eq_true rfl⟩) (hP.sub (ws' := [(h_m, .inr (5, [.int y3, .int nd, .int sw, .int so, .int lo, .ref h_one, .ref h_oth, .ref a_isb, .int cl, .int ea, .int on, .int lg, .ref a_log, .int wr, .ref a_seq, .int pe, .ref h_mho, .ref h_mih, .ref a_far])), (h_one, .inl (cI, 24, .inl one)), (h_oth, .inl (cI, 24, .inl oth))]) [0, 1, 2] rfl) hKK (va_recv hK hP (ci := 5) (q0 := 0) rfl rfl) rfl hl.1 rfl (Nat.le_of_ble_eq_true rfl) dX5_permit_88 ⟨Nat.le_of_ble_eq_true rfl, Nat.le_of_ble_eq_true rfl⟩ ?_
                refine lv_if_eq (tgt := 114) hx hb dX5_permit_91 (by decide) (fun c33 => ?_) (fun c33 => ?_)
                · have h := it_t h c33
                  refine lv_iconst (v := 0) hx hb dX5_permit_114 (by decide) ?_
                  refine lv_istore_n (lv' := [(2, .int 0), (3, .int x9), (0, .ref h_m), (1, .int p0)]) hx hb dX5_permit_115 rfl hl (by decide) rfl (fun ls hl => ?_)
                  refine lv_iinc (v := x9 + 1) (lv' := [(3, .int (x9 + 1)), (2, .int 0), (0, .ref h_m), (1, .int p0)]) hx hb dX5_permit_116 hl (k := 1) rfl rfl (by decide) rfl (fun ls hl => ?_)
                  refine lv_goto (tgt := 51) hx hb dX5_permit_119 (by decide) ?_
                  exact hg51_12 (x9 + 1) 0 h H locs ls hP hD hS (lv_sub hl [0, 1, 2, 3] rfl)
                · have h := it_f h c33
                  refine lv_aload_n hx hb dX5_permit_94 rfl (lv_at hl 2 rfl) ?_
                  refine lv_iload_n hx hb dX5_permit_95 rfl (lv_at hl 0 rfl) ?_
                  refine lv_aload_n hx hb dX5_permit_96 rfl (lv_at hl 2 rfl) ?_
                  refine va_get (D := D) (ci := 5) (v := .int cl) (C := RX5) (T := TX5) (N := 19) hx hb hts inX5_permit_X5 hown hK hP 0 rfl rfl 8 (by decide) (hts _ lkX5_permit_5) (fun _ h9 => h9) rfl dX5_permit_97 ?_
                  refine lv_aload_n hx hb dX5_permit_100 rfl (lv_at hl 2 rfl) ?_
                  refine va_get (D := D) (ci := 5) (v := .int on) (C := RX5) (T := TX5) (N := 19) hx hb hts inX5_permit_X5 hown hK hP 0 rfl rfl 10 (by decide) (hts _ lkX5_permit_7) (fun _ h9 => h9) rfl dX5_permit_101 ?_
                  obtain ⟨v34, hq35, h⟩ := bd1_e h
                  refine zz_cV (As := [.int x9, .int cl, .int on]) ⟨hx, hb, hml, hown, hts⟩ (kX5_isLive l D cI cZ cL h_m a_isb a_log a_seq h_mho h_mih a_far h_one h_oth y3 nd sw so lo cl ea on lg wr pe one oth x9 cl on N hq35) (cwV 3 hts gX5_permit_X5_isLive rfl rfl rfl (by decide +kernel) ⟨Nat.le_of_ble_eq_true rfl, Nat.le_of_ble_eq_true rfl⟩) (hP.sub (ws' := [(h_m, .inr (5, [.int y3, .int nd, .int sw, .int so, .int lo, .ref h_one, .ref h_oth, .ref a_isb, .int cl, .int ea, .int on, .int lg, .ref a_log, .int wr, .ref a_seq, .int pe, .ref h_mho, .ref h_mih, .ref a_far])), (h_one, .inl (cI, 24, .inl one)), (h_oth, .inl (cI, 24, .inl oth))]) [0, 1, 2] rfl) hKK (va_recv hK hP (ci := 5) (q0 := 0) rfl rfl) rfl hl.1 rfl (Nat.le_of_ble_eq_true rfl) dX5_permit_104 ⟨Nat.le_of_ble_eq_true rfl, Nat.le_of_ble_eq_true rfl⟩ ?_
                  refine lv_if_ne (tgt := 114) hx hb dX5_permit_107 (by decide) (fun c36 => ?_) (fun c36 => ?_)
                  · have h := it_f h c36
                    refine lv_iconst (v := 0) hx hb dX5_permit_114 (by decide) ?_
                    refine lv_istore_n (lv' := [(2, .int 0), (3, .int x9), (0, .ref h_m), (1, .int p0)]) hx hb dX5_permit_115 rfl hl (by decide) rfl (fun ls hl => ?_)
                    refine lv_iinc (v := x9 + 1) (lv' := [(3, .int (x9 + 1)), (2, .int 0), (0, .ref h_m), (1, .int p0)]) hx hb dX5_permit_116 hl (k := 1) rfl rfl (by decide) rfl (fun ls hl => ?_)
                    refine lv_goto (tgt := 51) hx hb dX5_permit_119 (by decide) ?_
                    exact hg51_12 (x9 + 1) 0 h H locs ls hP hD hS (lv_sub hl [0, 1, 2, 3] rfl)
                  · have h := it_t h c36
                    refine lv_iconst (v := 1) hx hb dX5_permit_110 (by decide) ?_
                    refine lv_goto (tgt := 115) hx hb dX5_permit_111 (by decide) ?_
                    refine lv_istore_n (lv' := [(2, .int 1), (3, .int x9), (0, .ref h_m), (1, .int p0)]) hx hb dX5_permit_115 rfl hl (by decide) rfl (fun ls hl => ?_)
                    refine lv_iinc (v := x9 + 1) (lv' := [(3, .int (x9 + 1)), (2, .int 1), (0, .ref h_m), (1, .int p0)]) hx hb dX5_permit_116 hl (k := 1) rfl rfl (by decide) rfl (fun ls hl => ?_)
                    refine lv_goto (tgt := 51) hx hb dX5_permit_119 (by decide) ?_
                    exact hg51_12 (x9 + 1) 1 h H locs ls hP hD hS (lv_sub hl [0, 1, 2, 3] rfl)
    · refine lv_icmp_ge (tgt := 47) hx hb dX5_permit_31 (by decide) (fun c37 => ?_) (fun c37 => ?_)
      · have h := it_t h c37
        refine lv_iconst (v := 0) hx hb dX5_permit_47 (by decide) ?_
        exact hg48_8 0 h H locs ls hP hD hS (lv_sub hl [0, 1] rfl)
      · have h := it_f h c37
        refine lv_iload_n hx hb dX5_permit_34 rfl (lv_at hl 1 rfl) ?_
        refine lv_aload_n hx hb dX5_permit_35 rfl (lv_at hl 0 rfl) ?_
        obtain ⟨v38, hq39, h⟩ := bd1_e h
        refine zz_cV (As := []) ⟨hx, hb, hml, hown, hts⟩ (kX5_heldNow l D cI cZ cL h_m h_one h_oth a_isb a_log a_seq a_far h_mho h_mih y3 nd sw so lo cl ea on lg wr pe mho mih N hq39) (cwV 0 hts gX5_permit_X5_heldNow rfl rfl rfl (by decide +kernel) ⟨Nat.le_of_ble_eq_true rfl, Nat.le_of_ble_eq_true rfl⟩) (hP.sub (ws' := [(h_m, .inr (5, [.int y3, .int nd, .int sw, .int so, .int lo, .ref h_one, .ref h_oth, .ref a_isb, .int cl, .int ea, .int on, .int lg, .ref a_log, .int wr, .ref a_seq, .int pe, .ref h_mho, .ref h_mih, .ref a_far])), (h_mho, .inl (cI, 10, .inl mho)), (h_mih, .inl (cZ, 10, .inl mih))]) [0, 3, 4] rfl) hKK (va_recv hK hP (ci := 5) (q0 := 0) rfl rfl) rfl hl.1 rfl (Nat.le_of_ble_eq_true rfl) dX5_permit_36 ⟨Nat.le_of_ble_eq_true rfl, Nat.le_of_ble_eq_true rfl⟩ ?_
        refine lv_iand hx hb dX5_permit_39 ?_
        refine lv_if_ne (tgt := 47) hx hb dX5_permit_40 (by decide) (fun c40 => ?_) (fun c40 => ?_)
        · have h := it_f h c40
          refine lv_iconst (v := 0) hx hb dX5_permit_47 (by decide) ?_
          exact hg48_8 0 h H locs ls hP hD hS (lv_sub hl [0, 1] rfl)
        · have h := it_t h c40
          refine lv_iconst (v := 1) hx hb dX5_permit_43 (by decide) ?_
          refine lv_goto (tgt := 48) hx hb dX5_permit_44 (by decide) ?_
          exact hg48_8 1 h H locs ls hP hD hS (lv_sub hl [0, 1] rfl)
  · refine lv_if_eq (tgt := 21) hx hb dX5_permit_14 (by decide) (fun c41 => ?_) (fun c41 => ?_)
    · have h := it_t h c41
      refine lv_iconst (v := 1) hx hb dX5_permit_21 (by decide) ?_
      exact hg22_5 1 h H locs ls hP hD hS (lv_sub hl [0, 1] rfl)
    · have h := it_f h c41
      refine lv_iconst (v := 0) hx hb dX5_permit_17 (by decide) ?_
      refine lv_goto (tgt := 22) hx hb dX5_permit_18 (by decide) ?_
      exact hg22_5 0 h H locs ls hP hD hS (lv_sub hl [0, 1] rfl)

def fX5_handBack (N : Nat) (th : Int32) (nd : Int32) (sw : Int32) (so : Int32) (lo : Int32) (cl : Int32) (ea : Int32) (on : Int32) (lg : Int32) (wr : Int32) (pe : Int32) (mih : Nat → Int32) (p0 : Int32) : Option ((Int32) × (Int32) × (Nat → Int32)) :=
  bd1 (fX5_in N  p0 0 (pe - 1)) (fun v1 => jn1 (fun (y3 : Int32) => (if y3 ≤ 0 then gin p0 10 (it2 (fun g56_10 (x8 : Int32) (x9 : Int32) => (if pe ≤ x8 then some (x9, y3, upd mih p0.toNatClampNeg (vp_nar .boolean 0)) else gin x8 10 ((if ((upd mih p0.toNatClampNeg (vp_nar .boolean 0)) x8.toNatClampNeg) = 0 then g56_10 (x8 + 1) (x9 + 0) else g56_10 (x8 + 1) (x9 + 1))))) N 0 0) else some (0, y3, mih))) (fun g33_4 => (if v1 = 0 then g33_4 1 else gin p0 10 ((if (mih p0.toNatClampNeg) = 0 then g33_4 2 else g33_4 0)))))
set_option maxRecDepth 100000 in
theorem inX5_handBack_X5 : ∀ w ∈ wsX50, w ∈ wsX5_handBack := by decide +kernel
set_option maxRecDepth 100000 in
theorem lkX5_handBack_0 : (.fieldLink RX5 73 "SwitchlogModel" "permits" "I" : Cond) ∈ wsX5_handBack := by decide +kernel
set_option maxRecDepth 100000 in
theorem lkX5_handBack_1 : (.fieldLink RX5 35 "SwitchlogModel" "thrown" "I" : Cond) ∈ wsX5_handBack := by decide +kernel
set_option maxRecDepth 100000 in
theorem lkX5_handBack_2 : (.fieldLink RX5 29 "SwitchlogModel" "isHeld" "[Z" : Cond) ∈ wsX5_handBack := by decide +kernel
abbrev rmX5_handBack : Room := { frames := 1, cells := 0, slots := 0, locals := 22 }
set_option maxHeartbeats 4000000 in
set_option maxRecDepth 100000 in
theorem kX5_handBack (l : Launch) (D : va_G) (cI cZ cL : ClassId) (sz0 : Nat) (h_m a_one a_oth a_isb a_log a_seq a_mho a_far h_mih : Nat) (th : Int32) (nd : Int32) (sw : Int32) (so : Int32) (lo : Int32) (cl : Int32) (ea : Int32) (on : Int32) (lg : Int32) (wr : Int32) (pe : Int32) (mih : Nat → Int32) (p0 : Int32) (N : Nat) {r : Int32} {r_0 : Int32} {r_1 : Nat → Int32} (h : fX5_handBack N th nd sw so lo cl ea on lg wr pe mih p0 = some (r, r_0, r_1)) : Met l yX5_handBack wsX5_handBack rmX5_handBack (PM D cI cZ cL [.ref h_m, .int p0] [(h_m, .inr (5, [.int th, .int nd, .int sw, .int so, .int lo, .ref a_one, .ref a_oth, .ref a_isb, .int cl, .int ea, .int on, .int lg, .ref a_log, .int wr, .ref a_seq, .int pe, .ref a_mho, .ref h_mih, .ref a_far])), (h_mih, .inl (cZ, 10, .inl mih))] sz0) (QM D (some (.int r)) (va_A [(h_m, .inr (5, [.int th, .int nd, .int sw, .int so, .int lo, .ref a_one, .ref a_oth, .ref a_isb, .int cl, .int ea, .int on, .int lg, .ref a_log, .int wr, .ref a_seq, .int pe, .ref a_mho, .ref h_mih, .ref a_far])), (h_mih, .inl (cZ, 10, .inl mih))] sz0) [(h_m, .inr (5, [.int r_0, .int nd, .int sw, .int so, .int lo, .ref a_one, .ref a_oth, .ref a_isb, .int cl, .int ea, .int on, .int lg, .ref a_log, .int wr, .ref a_seq, .int pe, .ref a_mho, .ref h_mih, .ref a_far])), (h_mih, .inl (cZ, 10, .inl r_1))]) 0 0 (va_A [(h_m, .inr (5, [.int th, .int nd, .int sw, .int so, .int lo, .ref a_one, .ref a_oth, .ref a_isb, .int cl, .int ea, .int on, .int lg, .ref a_log, .int wr, .ref a_seq, .int pe, .ref a_mho, .ref h_mih, .ref a_far])), (h_mih, .inl (cZ, 10, .inl mih))] sz0) := by
  refine Met.ofW (cc := cX5_handBack) (maxL := 4) (ret := (some .int)) (by decide) rfl ?_
  intro p e s m args below meth c s₁ B hml hv
  obtain ⟨rfl, hsz, hP, hKK, hD0⟩ := hv
  have hK := hKK.1
  have hx := B.exec
  have hb := B.bytes
  have hr := B.returns
  have hts := atoms_spec (ws := wsX5_handBack) B.pre
  have hown : s.vm.findClass RX5 = some m.cls := findClass_of_methodNamed B.named
  have hlocks := B.notSynchronized
  subst hsz
  have hD := hD0.self (sz := s.heap.size)
  generalize hAe : va_A [(h_m, .inr (5, [.int th, .int nd, .int sw, .int so, .int lo, .ref a_one, .ref a_oth, .ref a_isb, .int cl, .int ea, .int on, .int lg, .ref a_log, .int wr, .ref a_seq, .int pe, .ref a_mho, .ref h_mih, .ref a_far])), (h_mih, .inl (cZ, 10, .inl mih))] s.heap.size = A at hD ⊢
  have hA : ∀ q : Nat, s.heap.size ≤ q → A q := fun q h => by rw [← hAe]; exact Or.inr h
  have hS : va_S A s.heap s.heap [] := va_S.rf
  have hl := lv_entry ([.ref h_m, .int p0]) (n := 4) (Nat.le_of_ble_eq_true rfl)
  rw [lg_entry_eq]
  generalize (lg_sl ([.ref h_m, .int p0]) ++ List.replicate (4 - (lg_sl ([.ref h_m, .int p0])).length) Slot.unset).toArray = ls at hl ⊢
  have hl : lv_has ls 4 [(0, .ref h_m), (1, .int p0)] := hl
  obtain ⟨QQ, hQQ⟩ : ∃ Z, Z = MQ below (QM D (some (.int r)) A [(h_m, .inr (5, [.int r_0, .int nd, .int sw, .int so, .int lo, .ref a_one, .ref a_oth, .ref a_isb, .int cl, .int ea, .int on, .int lg, .ref a_log, .int wr, .ref a_seq, .int pe, .ref a_mho, .ref h_mih, .ref a_far])), (h_mih, .inl (cZ, 10, .inl r_1))]) ([.ref h_m, .int p0] : List Value).toArray s 0 0 A := ⟨_, rfl⟩
  rw [← hQQ]
  obtain ⟨H, locs, hHe, hLe⟩ : ∃ (H : Heap) (locs : List Loc), H = s.heap ∧ locs = [] := ⟨_, _, rfl, rfl⟩
  have hP : va_P D vwCl [(h_m, .inr (5, [.int th, .int nd, .int sw, .int so, .int lo, .ref a_one, .ref a_oth, .ref a_isb, .int cl, .int ea, .int on, .int lg, .ref a_log, .int wr, .ref a_seq, .int pe, .ref a_mho, .ref h_mih, .ref a_far])), (h_mih, .inl (cZ, 10, .inl mih))] H := by rw [hHe]; exact hP
  have hS : va_S A s.heap H locs := by rw [hHe, hLe]; exact hS
  have hW0 : ∀ QQ : State → Prop, W p l e (headSpec wsX5_handBack rmX5_handBack).room s m (([.ref h_m, .int p0] : List Value).toArray) below meth c H locs 0 0 QQ (F0 m 0 ls []) → W p l e (headSpec wsX5_handBack rmX5_handBack).room s m (([.ref h_m, .int p0] : List Value).toArray) below meth c s.heap [] 0 0 QQ (F0 m 0 ls []) := by rw [hHe, hLe]; exact fun _ h => h
  refine hW0 _ ?_
  clear hW0
  unfold fX5_handBack at h
  refine lv_aload_n hx hb dX5_handBack_0 rfl (lv_at hl 0 rfl) ?_
  refine lv_iload_n hx hb dX5_handBack_1 rfl (lv_at hl 1 rfl) ?_
  refine lv_iconst (v := 0) hx hb dX5_handBack_2 (by decide) ?_
  refine lv_aload_n hx hb dX5_handBack_3 rfl (lv_at hl 0 rfl) ?_
  refine va_get (D := D) (ci := 5) (v := .int pe) (C := RX5) (T := TX5) (N := 19) hx hb hts inX5_handBack_X5 hown hK hP 0 rfl rfl 15 (by decide) (hts _ lkX5_handBack_0) (fun _ h9 => h9) rfl dX5_handBack_4 ?_
  refine lv_iconst (v := 1) hx hb dX5_handBack_7 (by decide) ?_
  refine lv_isub hx hb dX5_handBack_8 ?_
  obtain ⟨v1, hq2, h⟩ := bd1_e h
  refine zz_cS (As := [.int p0, .int 0, .int (pe - 1)]) ⟨hx, hb, hml, hown, hts⟩ (kX5_in l D cI cZ cL p0 0 (pe - 1) N hq2) (va_cwS 3 hts gX5_handBack_X5_in rfl rfl rfl (by decide +kernel) ⟨Nat.le_of_ble_eq_true rfl, Nat.le_of_ble_eq_true rfl⟩) (hP.sub (ws' := []) [] rfl) hKK rfl hl.1 rfl (Nat.le_of_ble_eq_true rfl) dX5_handBack_9 ⟨Nat.le_of_ble_eq_true rfl, Nat.le_of_ble_eq_true rfl⟩ ?_
  refine jn1_e (fun (y3 : Int32) => ∀ (H : Heap) (locs : List Loc) (ls : Array Slot), va_P D vwCl [(h_m, .inr (5, [.int th, .int nd, .int sw, .int so, .int lo, .ref a_one, .ref a_oth, .ref a_isb, .int cl, .int ea, .int on, .int lg, .ref a_log, .int wr, .ref a_seq, .int pe, .ref a_mho, .ref h_mih, .ref a_far])), (h_mih, .inl (cZ, 10, .inl mih))] H → va_D A [(h_m, .inr (5, [.int th, .int nd, .int sw, .int so, .int lo, .ref a_one, .ref a_oth, .ref a_isb, .int cl, .int ea, .int on, .int lg, .ref a_log, .int wr, .ref a_seq, .int pe, .ref a_mho, .ref h_mih, .ref a_far])), (h_mih, .inl (cZ, 10, .inl mih))] → va_S A s.heap H locs → lv_has ls 4 [(0, .ref h_m), (1, .int p0)] → W p l e (headSpec wsX5_handBack rmX5_handBack).room s m (([.ref h_m, .int p0] : List Value).toArray) below meth c H locs 0 0 QQ (F0 m 33 ls [.int y3, .ref h_m])) h (fun y3 h H locs ls hP hD hS hl => ?_) (fun g33_4 hg33_5 h => ?_)
  · refine va_put (D := D) (ci := 5) (v := .int y3) (ty := .int) (C := RX5) (T := TX5) (N := 19) hx hb hts inX5_handBack_X5 tyX5 tyX5_ok nmX5 hown hK hP hD hS 0 rfl rfl 0 (by decide) (hts _ lkX5_handBack_1) (fun _ h9 => h9) rfl (by decide +kernel) rfl rfl (Nat.le_of_ble_eq_true rfl) dX5_handBack_33 (fun H locs hP hD hS => ?_)
    have hP : va_P D vwCl [(h_m, .inr (5, [.int y3, .int nd, .int sw, .int so, .int lo, .ref a_one, .ref a_oth, .ref a_isb, .int cl, .int ea, .int on, .int lg, .ref a_log, .int wr, .ref a_seq, .int pe, .ref a_mho, .ref h_mih, .ref a_far])), (h_mih, .inl (cZ, 10, .inl mih))] H := hP
    have hD : va_D A [(h_m, .inr (5, [.int y3, .int nd, .int sw, .int so, .int lo, .ref a_one, .ref a_oth, .ref a_isb, .int cl, .int ea, .int on, .int lg, .ref a_log, .int wr, .ref a_seq, .int pe, .ref a_mho, .ref h_mih, .ref a_far])), (h_mih, .inl (cZ, 10, .inl mih))] := hD
    refine lv_aload_n hx hb dX5_handBack_36 rfl (lv_at hl 0 rfl) ?_
    refine va_get (D := D) (ci := 5) (v := .int y3) (C := RX5) (T := TX5) (N := 19) hx hb hts inX5_handBack_X5 hown hK hP 0 rfl rfl 0 (by decide) (hts _ lkX5_handBack_1) (fun _ h9 => h9) rfl dX5_handBack_37 ?_
    refine lv_if_le (tgt := 45) hx hb dX5_handBack_40 (by decide) (fun c6 => ?_) (fun c6 => ?_)
    · have h := it_t h c6
      refine lv_aload_n hx hb dX5_handBack_45 rfl (lv_at hl 0 rfl) ?_
      refine va_get (D := D) (ci := 5) (v := .ref h_mih) (C := RX5) (T := TX5) (N := 19) hx hb hts inX5_handBack_X5 hown hK hP 0 rfl rfl 17 (by decide) (hts _ lkX5_handBack_2) (fun _ h9 => h9) rfl dX5_handBack_46 ?_
      refine lv_iload_n hx hb dX5_handBack_49 rfl (lv_at hl 1 rfl) ?_
      refine lv_iconst (v := 0) hx hb dX5_handBack_50 (by decide) ?_
      obtain ⟨hi7, h⟩ := gin_e h
      refine va_zast hx hb hK hP hD hS 1 1 rfl rfl hi7 dX5_handBack_51 (fun H locs hP hD hS => ?_)
      have hP : va_P D vwCl [(h_m, .inr (5, [.int y3, .int nd, .int sw, .int so, .int lo, .ref a_one, .ref a_oth, .ref a_isb, .int cl, .int ea, .int on, .int lg, .ref a_log, .int wr, .ref a_seq, .int pe, .ref a_mho, .ref h_mih, .ref a_far])), (h_mih, .inl (cZ, 10, .inl (upd mih p0.toNatClampNeg (vp_nar .boolean 0))))] H := hP
      have hD : va_D A [(h_m, .inr (5, [.int y3, .int nd, .int sw, .int so, .int lo, .ref a_one, .ref a_oth, .ref a_isb, .int cl, .int ea, .int on, .int lg, .ref a_log, .int wr, .ref a_seq, .int pe, .ref a_mho, .ref h_mih, .ref a_far])), (h_mih, .inl (cZ, 10, .inl (upd mih p0.toNatClampNeg (vp_nar .boolean 0))))] := hD
      refine lv_iconst (v := 0) hx hb dX5_handBack_52 (by decide) ?_
      refine lv_istore_n (lv' := [(2, .int 0), (0, .ref h_m), (1, .int p0)]) hx hb dX5_handBack_53 rfl hl (by decide) rfl (fun ls hl => ?_)
      refine lv_iconst (v := 0) hx hb dX5_handBack_54 (by decide) ?_
      refine lv_istore_n (lv' := [(3, .int 0), (2, .int 0), (0, .ref h_m), (1, .int p0)]) hx hb dX5_handBack_55 rfl hl (by decide) rfl (fun ls hl => ?_)
      refine it2_e (fun (x8 : Int32) (x9 : Int32) => ∀ (H : Heap) (locs : List Loc) (ls : Array Slot), va_P D vwCl [(h_m, .inr (5, [.int y3, .int nd, .int sw, .int so, .int lo, .ref a_one, .ref a_oth, .ref a_isb, .int cl, .int ea, .int on, .int lg, .ref a_log, .int wr, .ref a_seq, .int pe, .ref a_mho, .ref h_mih, .ref a_far])), (h_mih, .inl (cZ, 10, .inl (upd mih p0.toNatClampNeg (vp_nar .boolean 0))))] H → va_D A [(h_m, .inr (5, [.int y3, .int nd, .int sw, .int so, .int lo, .ref a_one, .ref a_oth, .ref a_isb, .int cl, .int ea, .int on, .int lg, .ref a_log, .int wr, .ref a_seq, .int pe, .ref a_mho, .ref h_mih, .ref a_far])), (h_mih, .inl (cZ, 10, .inl (upd mih p0.toNatClampNeg (vp_nar .boolean 0))))] → va_S A s.heap H locs → lv_has ls 4 [(3, .int x8), (2, .int x9), (0, .ref h_m), (1, .int p0)] → W p l e (headSpec wsX5_handBack rmX5_handBack).room s m (([.ref h_m, .int p0] : List Value).toArray) below meth c H locs 0 0 QQ (F0 m 56 ls [])) (fun g56_10 hg56_11 x8 x9 h H locs ls hP hD hS hl => ?_) N 0 0 h H locs ls hP hD hS (lv_sub hl [0, 1, 2, 3] rfl)
      refine lv_iload_n hx hb dX5_handBack_56 rfl (lv_at hl 0 rfl) ?_
      refine lv_aload_n hx hb dX5_handBack_57 rfl (lv_at hl 2 rfl) ?_
      refine va_get (D := D) (ci := 5) (v := .int pe) (C := RX5) (T := TX5) (N := 19) hx hb hts inX5_handBack_X5 hown hK hP 0 rfl rfl 15 (by decide) (hts _ lkX5_handBack_0) (fun _ h9 => h9) rfl dX5_handBack_58 ?_
      refine lv_icmp_ge (tgt := 87) hx hb dX5_handBack_61 (by decide) (fun c12 => ?_) (fun c12 => ?_)
      · have h := it_t h c12
        refine lv_iload_n hx hb dX5_handBack_87 rfl (lv_at hl 1 rfl) ?_
        cases h
        rw [hQQ]
        exact W.iret hx hb hr (fun t ht hW => ⟨rfl, by rw [ht]; exact hP, hD, hS.F ht⟩) hS.2.2 dX5_handBack_88
      · have h := it_f h c12
        refine lv_iload_n hx hb dX5_handBack_64 rfl (lv_at hl 1 rfl) ?_
        refine lv_aload_n hx hb dX5_handBack_65 rfl (lv_at hl 2 rfl) ?_
        refine va_get (D := D) (ci := 5) (v := .ref h_mih) (C := RX5) (T := TX5) (N := 19) hx hb hts inX5_handBack_X5 hown hK hP 0 rfl rfl 17 (by decide) (hts _ lkX5_handBack_2) (fun _ h9 => h9) rfl dX5_handBack_66 ?_
        refine lv_iload_n hx hb dX5_handBack_69 rfl (lv_at hl 0 rfl) ?_
        obtain ⟨hi13, h⟩ := gin_e h
        refine va_zald hx hb hK hP 1 1 rfl rfl hi13 dX5_handBack_70 ?_
        refine lv_if_eq (tgt := 78) hx hb dX5_handBack_71 (by decide) (fun c14 => ?_) (fun c14 => ?_)
        · have h := it_t h c14
          refine lv_iconst (v := 0) hx hb dX5_handBack_78 (by decide) ?_
          refine lv_iadd hx hb dX5_handBack_79 ?_
          refine lv_istore_n (lv' := [(2, .int (x9 + 0)), (3, .int x8), (0, .ref h_m), (1, .int p0)]) hx hb dX5_handBack_80 rfl hl (by decide) rfl (fun ls hl => ?_)
          refine lv_iinc (v := x8 + 1) (lv' := [(3, .int (x8 + 1)), (2, .int (x9 + 0)), (0, .ref h_m), (1, .int p0)]) hx hb dX5_handBack_81 hl (k := 1) rfl rfl (by decide) rfl (fun ls hl => ?_)
          refine lv_goto (tgt := 56) hx hb dX5_handBack_84 (by decide) ?_
          exact hg56_11 (x8 + 1) (x9 + 0) h H locs ls hP hD hS (lv_sub hl [0, 1, 2, 3] rfl)
        · have h := it_f h c14
          refine lv_iconst (v := 1) hx hb dX5_handBack_74 (by decide) ?_
          refine lv_goto (tgt := 79) hx hb dX5_handBack_75 (by decide) ?_
          refine lv_iadd hx hb dX5_handBack_79 ?_
          refine lv_istore_n (lv' := [(2, .int (x9 + 1)), (3, .int x8), (0, .ref h_m), (1, .int p0)]) hx hb dX5_handBack_80 rfl hl (by decide) rfl (fun ls hl => ?_)
          refine lv_iinc (v := x8 + 1) (lv' := [(3, .int (x8 + 1)), (2, .int (x9 + 1)), (0, .ref h_m), (1, .int p0)]) hx hb dX5_handBack_81 hl (k := 1) rfl rfl (by decide) rfl (fun ls hl => ?_)
          refine lv_goto (tgt := 56) hx hb dX5_handBack_84 (by decide) ?_
          exact hg56_11 (x8 + 1) (x9 + 1) h H locs ls hP hD hS (lv_sub hl [0, 1, 2, 3] rfl)
    · have h := it_f h c6
      refine lv_iconst (v := 0) hx hb dX5_handBack_43 (by decide) ?_
      cases h
      rw [hQQ]
      exact W.iret hx hb hr (fun t ht hW => ⟨rfl, by rw [ht]; exact hP, hD, hS.F ht⟩) hS.2.2 dX5_handBack_44
  · refine lv_if_ne (tgt := 19) hx hb dX5_handBack_12 (by decide) (fun c15 => ?_) (fun c15 => ?_)
    · have h := it_f h c15
      refine lv_aload_n hx hb dX5_handBack_19 rfl (lv_at hl 0 rfl) ?_
      refine va_get (D := D) (ci := 5) (v := .ref h_mih) (C := RX5) (T := TX5) (N := 19) hx hb hts inX5_handBack_X5 hown hK hP 0 rfl rfl 17 (by decide) (hts _ lkX5_handBack_2) (fun _ h9 => h9) rfl dX5_handBack_20 ?_
      refine lv_iload_n hx hb dX5_handBack_23 rfl (lv_at hl 1 rfl) ?_
      obtain ⟨hi16, h⟩ := gin_e h
      refine va_zald hx hb hK hP 1 1 rfl rfl hi16 dX5_handBack_24 ?_
      refine lv_if_eq (tgt := 32) hx hb dX5_handBack_25 (by decide) (fun c17 => ?_) (fun c17 => ?_)
      · have h := it_t h c17
        refine lv_iconst (v := 2) hx hb dX5_handBack_32 (by decide) ?_
        exact hg33_5 2 h H locs ls hP hD hS (lv_sub hl [0, 1] rfl)
      · have h := it_f h c17
        refine lv_iconst (v := 0) hx hb dX5_handBack_28 (by decide) ?_
        refine lv_goto (tgt := 33) hx hb dX5_handBack_29 (by decide) ?_
        exact hg33_5 0 h H locs ls hP hD hS (lv_sub hl [0, 1] rfl)
    · have h := it_t h c15
      refine lv_iconst (v := 1) hx hb dX5_handBack_15 (by decide) ?_
      refine lv_goto (tgt := 33) hx hb dX5_handBack_16 (by decide) ?_
      exact hg33_5 1 h H locs ls hP hD hS (lv_sub hl [0, 1] rfl)

def fX5_held (N : Nat) (th : Int32) (nd : Int32) (sw : Int32) (so : Int32) (lo : Int32) (cl : Int32) (ea : Int32) (on : Int32) (lg : Int32) (wr : Int32) (pe : Int32) (mho : Nat → Int32) (mih : Nat → Int32) : Option ((Int32) × (Int32)) :=
  bd1 (fX5_heldNow N 0 nd sw so lo cl ea on lg wr pe mho mih) (fun v1 => some (v1, 0))
set_option maxRecDepth 100000 in
theorem inX5_held_X5 : ∀ w ∈ wsX50, w ∈ wsX5_held := by decide +kernel
set_option maxRecDepth 100000 in
theorem lkX5_held_0 : (.fieldLink RX5 35 "SwitchlogModel" "thrown" "I" : Cond) ∈ wsX5_held := by decide +kernel
abbrev rmX5_held : Room := { frames := 1, cells := 0, slots := 0, locals := 22 }
set_option maxHeartbeats 4000000 in
set_option maxRecDepth 100000 in
theorem kX5_held (l : Launch) (D : va_G) (cI cZ cL : ClassId) (sz0 : Nat) (h_m a_one a_oth a_isb a_log a_seq a_far h_mho h_mih : Nat) (th : Int32) (nd : Int32) (sw : Int32) (so : Int32) (lo : Int32) (cl : Int32) (ea : Int32) (on : Int32) (lg : Int32) (wr : Int32) (pe : Int32) (mho : Nat → Int32) (mih : Nat → Int32)  (N : Nat) {r : Int32} {r_0 : Int32} (h : fX5_held N th nd sw so lo cl ea on lg wr pe mho mih  = some (r, r_0)) : Met l yX5_held wsX5_held rmX5_held (PM D cI cZ cL [.ref h_m] [(h_m, .inr (5, [.int th, .int nd, .int sw, .int so, .int lo, .ref a_one, .ref a_oth, .ref a_isb, .int cl, .int ea, .int on, .int lg, .ref a_log, .int wr, .ref a_seq, .int pe, .ref h_mho, .ref h_mih, .ref a_far])), (h_mho, .inl (cI, 10, .inl mho)), (h_mih, .inl (cZ, 10, .inl mih))] sz0) (QM D (some (.int r)) (va_A [(h_m, .inr (5, [.int th, .int nd, .int sw, .int so, .int lo, .ref a_one, .ref a_oth, .ref a_isb, .int cl, .int ea, .int on, .int lg, .ref a_log, .int wr, .ref a_seq, .int pe, .ref h_mho, .ref h_mih, .ref a_far])), (h_mho, .inl (cI, 10, .inl mho)), (h_mih, .inl (cZ, 10, .inl mih))] sz0) [(h_m, .inr (5, [.int r_0, .int nd, .int sw, .int so, .int lo, .ref a_one, .ref a_oth, .ref a_isb, .int cl, .int ea, .int on, .int lg, .ref a_log, .int wr, .ref a_seq, .int pe, .ref h_mho, .ref h_mih, .ref a_far])), (h_mho, .inl (cI, 10, .inl mho)), (h_mih, .inl (cZ, 10, .inl mih))]) 0 0 (va_A [(h_m, .inr (5, [.int th, .int nd, .int sw, .int so, .int lo, .ref a_one, .ref a_oth, .ref a_isb, .int cl, .int ea, .int on, .int lg, .ref a_log, .int wr, .ref a_seq, .int pe, .ref h_mho, .ref h_mih, .ref a_far])), (h_mho, .inl (cI, 10, .inl mho)), (h_mih, .inl (cZ, 10, .inl mih))] sz0) := by
  refine Met.ofW (cc := cX5_held) (maxL := 1) (ret := (some .int)) (by decide) rfl ?_
  intro p e s m args below meth c s₁ B hml hv
  obtain ⟨rfl, hsz, hP, hKK, hD0⟩ := hv
  have hK := hKK.1
  have hx := B.exec
  have hb := B.bytes
  have hr := B.returns
  have hts := atoms_spec (ws := wsX5_held) B.pre
  have hown : s.vm.findClass RX5 = some m.cls := findClass_of_methodNamed B.named
  have hlocks := B.notSynchronized
  subst hsz
  have hD := hD0.self (sz := s.heap.size)
  generalize hAe : va_A [(h_m, .inr (5, [.int th, .int nd, .int sw, .int so, .int lo, .ref a_one, .ref a_oth, .ref a_isb, .int cl, .int ea, .int on, .int lg, .ref a_log, .int wr, .ref a_seq, .int pe, .ref h_mho, .ref h_mih, .ref a_far])), (h_mho, .inl (cI, 10, .inl mho)), (h_mih, .inl (cZ, 10, .inl mih))] s.heap.size = A at hD ⊢
  have hA : ∀ q : Nat, s.heap.size ≤ q → A q := fun q h => by rw [← hAe]; exact Or.inr h
  have hS : va_S A s.heap s.heap [] := va_S.rf
  have hl := lv_entry ([.ref h_m]) (n := 1) (Nat.le_of_ble_eq_true rfl)
  rw [lg_entry_eq]
  generalize (lg_sl ([.ref h_m]) ++ List.replicate (1 - (lg_sl ([.ref h_m])).length) Slot.unset).toArray = ls at hl ⊢
  have hl : lv_has ls 1 [(0, .ref h_m)] := hl
  obtain ⟨QQ, hQQ⟩ : ∃ Z, Z = MQ below (QM D (some (.int r)) A [(h_m, .inr (5, [.int r_0, .int nd, .int sw, .int so, .int lo, .ref a_one, .ref a_oth, .ref a_isb, .int cl, .int ea, .int on, .int lg, .ref a_log, .int wr, .ref a_seq, .int pe, .ref h_mho, .ref h_mih, .ref a_far])), (h_mho, .inl (cI, 10, .inl mho)), (h_mih, .inl (cZ, 10, .inl mih))]) ([.ref h_m] : List Value).toArray s 0 0 A := ⟨_, rfl⟩
  rw [← hQQ]
  obtain ⟨H, locs, hHe, hLe⟩ : ∃ (H : Heap) (locs : List Loc), H = s.heap ∧ locs = [] := ⟨_, _, rfl, rfl⟩
  have hP : va_P D vwCl [(h_m, .inr (5, [.int th, .int nd, .int sw, .int so, .int lo, .ref a_one, .ref a_oth, .ref a_isb, .int cl, .int ea, .int on, .int lg, .ref a_log, .int wr, .ref a_seq, .int pe, .ref h_mho, .ref h_mih, .ref a_far])), (h_mho, .inl (cI, 10, .inl mho)), (h_mih, .inl (cZ, 10, .inl mih))] H := by rw [hHe]; exact hP
  have hS : va_S A s.heap H locs := by rw [hHe, hLe]; exact hS
  have hW0 : ∀ QQ : State → Prop, W p l e (headSpec wsX5_held rmX5_held).room s m (([.ref h_m] : List Value).toArray) below meth c H locs 0 0 QQ (F0 m 0 ls []) → W p l e (headSpec wsX5_held rmX5_held).room s m (([.ref h_m] : List Value).toArray) below meth c s.heap [] 0 0 QQ (F0 m 0 ls []) := by rw [hHe, hLe]; exact fun _ h => h
  refine hW0 _ ?_
  clear hW0
  unfold fX5_held at h
  refine lv_aload_n hx hb dX5_held_0 rfl (lv_at hl 0 rfl) ?_
  refine lv_iconst (v := 0) hx hb dX5_held_1 (by decide) ?_
  refine va_put (D := D) (ci := 5) (v := .int 0) (ty := .int) (C := RX5) (T := TX5) (N := 19) hx hb hts inX5_held_X5 tyX5 tyX5_ok nmX5 hown hK hP hD hS 0 rfl rfl 0 (by decide) (hts _ lkX5_held_0) (fun _ h9 => h9) rfl (by decide +kernel) rfl rfl (Nat.le_of_ble_eq_true rfl) dX5_held_2 (fun H locs hP hD hS => ?_)
  have hP : va_P D vwCl [(h_m, .inr (5, [.int 0, .int nd, .int sw, .int so, .int lo, .ref a_one, .ref a_oth, .ref a_isb, .int cl, .int ea, .int on, .int lg, .ref a_log, .int wr, .ref a_seq, .int pe, .ref h_mho, .ref h_mih, .ref a_far])), (h_mho, .inl (cI, 10, .inl mho)), (h_mih, .inl (cZ, 10, .inl mih))] H := hP
  have hD : va_D A [(h_m, .inr (5, [.int 0, .int nd, .int sw, .int so, .int lo, .ref a_one, .ref a_oth, .ref a_isb, .int cl, .int ea, .int on, .int lg, .ref a_log, .int wr, .ref a_seq, .int pe, .ref h_mho, .ref h_mih, .ref a_far])), (h_mho, .inl (cI, 10, .inl mho)), (h_mih, .inl (cZ, 10, .inl mih))] := hD
  refine lv_aload_n hx hb dX5_held_5 rfl (lv_at hl 0 rfl) ?_
  obtain ⟨v1, hq2, h⟩ := bd1_e h
  refine zz_cV (As := []) ⟨hx, hb, hml, hown, hts⟩ (kX5_heldNow l D cI cZ cL h_m a_one a_oth a_isb a_log a_seq a_far h_mho h_mih 0 nd sw so lo cl ea on lg wr pe mho mih N hq2) (cwV 0 hts gX5_held_X5_heldNow rfl rfl rfl (by decide +kernel) ⟨Nat.le_of_ble_eq_true rfl, Nat.le_of_ble_eq_true rfl⟩) (hP.sub (ws' := [(h_m, .inr (5, [.int 0, .int nd, .int sw, .int so, .int lo, .ref a_one, .ref a_oth, .ref a_isb, .int cl, .int ea, .int on, .int lg, .ref a_log, .int wr, .ref a_seq, .int pe, .ref h_mho, .ref h_mih, .ref a_far])), (h_mho, .inl (cI, 10, .inl mho)), (h_mih, .inl (cZ, 10, .inl mih))]) [0, 1, 2] rfl) hKK (va_recv hK hP (ci := 5) (q0 := 0) rfl rfl) rfl hl.1 rfl (Nat.le_of_ble_eq_true rfl) dX5_held_6 ⟨Nat.le_of_ble_eq_true rfl, Nat.le_of_ble_eq_true rfl⟩ ?_
  cases h
  rw [hQQ]
  exact W.iret hx hb hr (fun t ht hW => ⟨rfl, by rw [ht]; exact hP, hD, hS.F ht⟩) hS.2.2 dX5_held_9

def fX5_isClosed (N : Nat) (th : Int32) (nd : Int32) (sw : Int32) (so : Int32) (lo : Int32) (cl : Int32) (ea : Int32) (on : Int32) (lg : Int32) (wr : Int32) (pe : Int32) (p0 : Int32) : Option ((Int32) × (Int32)) :=
  bd1 (fX5_isSwitch N th nd sw so lo cl ea on lg wr pe p0) (fun v1 => jn1 (fun (y3 : Int32) => (if y3 = 0 then bd1 (fX5_has N  cl p0) (fun v7 => (if v7 = 0 then some (0, y3) else some (1, y3))) else some (0, y3))) (fun g14_4 => (if v1 = 0 then g14_4 1 else g14_4 0)))
set_option maxRecDepth 100000 in
theorem inX5_isClosed_X5 : ∀ w ∈ wsX50, w ∈ wsX5_isClosed := by decide +kernel
set_option maxRecDepth 100000 in
theorem lkX5_isClosed_0 : (.fieldLink RX5 35 "SwitchlogModel" "thrown" "I" : Cond) ∈ wsX5_isClosed := by decide +kernel
set_option maxRecDepth 100000 in
theorem lkX5_isClosed_1 : (.fieldLink RX5 76 "SwitchlogModel" "closed" "I" : Cond) ∈ wsX5_isClosed := by decide +kernel
abbrev rmX5_isClosed : Room := { frames := 2, cells := 0, slots := 0, locals := 43 }
set_option maxHeartbeats 4000000 in
set_option maxRecDepth 100000 in
theorem kX5_isClosed (l : Launch) (D : va_G) (cI cZ cL : ClassId) (sz0 : Nat) (h_m a_one a_oth a_isb a_log a_seq a_mho a_mih a_far : Nat) (th : Int32) (nd : Int32) (sw : Int32) (so : Int32) (lo : Int32) (cl : Int32) (ea : Int32) (on : Int32) (lg : Int32) (wr : Int32) (pe : Int32) (p0 : Int32) (N : Nat) {r : Int32} {r_0 : Int32} (h : fX5_isClosed N th nd sw so lo cl ea on lg wr pe p0 = some (r, r_0)) : Met l yX5_isClosed wsX5_isClosed rmX5_isClosed (PM D cI cZ cL [.ref h_m, .int p0] [(h_m, .inr (5, [.int th, .int nd, .int sw, .int so, .int lo, .ref a_one, .ref a_oth, .ref a_isb, .int cl, .int ea, .int on, .int lg, .ref a_log, .int wr, .ref a_seq, .int pe, .ref a_mho, .ref a_mih, .ref a_far]))] sz0) (QM D (some (.int r)) (va_A [(h_m, .inr (5, [.int th, .int nd, .int sw, .int so, .int lo, .ref a_one, .ref a_oth, .ref a_isb, .int cl, .int ea, .int on, .int lg, .ref a_log, .int wr, .ref a_seq, .int pe, .ref a_mho, .ref a_mih, .ref a_far]))] sz0) [(h_m, .inr (5, [.int r_0, .int nd, .int sw, .int so, .int lo, .ref a_one, .ref a_oth, .ref a_isb, .int cl, .int ea, .int on, .int lg, .ref a_log, .int wr, .ref a_seq, .int pe, .ref a_mho, .ref a_mih, .ref a_far]))]) 0 0 (va_A [(h_m, .inr (5, [.int th, .int nd, .int sw, .int so, .int lo, .ref a_one, .ref a_oth, .ref a_isb, .int cl, .int ea, .int on, .int lg, .ref a_log, .int wr, .ref a_seq, .int pe, .ref a_mho, .ref a_mih, .ref a_far]))] sz0) := by
  refine Met.ofW (cc := cX5_isClosed) (maxL := 2) (ret := (some .boolean)) (by decide) rfl ?_
  intro p e s m args below meth c s₁ B hml hv
  obtain ⟨rfl, hsz, hP, hKK, hD0⟩ := hv
  have hK := hKK.1
  have hx := B.exec
  have hb := B.bytes
  have hr := B.returns
  have hts := atoms_spec (ws := wsX5_isClosed) B.pre
  have hown : s.vm.findClass RX5 = some m.cls := findClass_of_methodNamed B.named
  have hlocks := B.notSynchronized
  subst hsz
  have hD := hD0.self (sz := s.heap.size)
  generalize hAe : va_A [(h_m, .inr (5, [.int th, .int nd, .int sw, .int so, .int lo, .ref a_one, .ref a_oth, .ref a_isb, .int cl, .int ea, .int on, .int lg, .ref a_log, .int wr, .ref a_seq, .int pe, .ref a_mho, .ref a_mih, .ref a_far]))] s.heap.size = A at hD ⊢
  have hA : ∀ q : Nat, s.heap.size ≤ q → A q := fun q h => by rw [← hAe]; exact Or.inr h
  have hS : va_S A s.heap s.heap [] := va_S.rf
  have hl := lv_entry ([.ref h_m, .int p0]) (n := 2) (Nat.le_of_ble_eq_true rfl)
  rw [lg_entry_eq]
  generalize (lg_sl ([.ref h_m, .int p0]) ++ List.replicate (2 - (lg_sl ([.ref h_m, .int p0])).length) Slot.unset).toArray = ls at hl ⊢
  have hl : lv_has ls 2 [(0, .ref h_m), (1, .int p0)] := hl
  obtain ⟨QQ, hQQ⟩ : ∃ Z, Z = MQ below (QM D (some (.int r)) A [(h_m, .inr (5, [.int r_0, .int nd, .int sw, .int so, .int lo, .ref a_one, .ref a_oth, .ref a_isb, .int cl, .int ea, .int on, .int lg, .ref a_log, .int wr, .ref a_seq, .int pe, .ref a_mho, .ref a_mih, .ref a_far]))]) ([.ref h_m, .int p0] : List Value).toArray s 0 0 A := ⟨_, rfl⟩
  rw [← hQQ]
  obtain ⟨H, locs, hHe, hLe⟩ : ∃ (H : Heap) (locs : List Loc), H = s.heap ∧ locs = [] := ⟨_, _, rfl, rfl⟩
  have hP : va_P D vwCl [(h_m, .inr (5, [.int th, .int nd, .int sw, .int so, .int lo, .ref a_one, .ref a_oth, .ref a_isb, .int cl, .int ea, .int on, .int lg, .ref a_log, .int wr, .ref a_seq, .int pe, .ref a_mho, .ref a_mih, .ref a_far]))] H := by rw [hHe]; exact hP
  have hS : va_S A s.heap H locs := by rw [hHe, hLe]; exact hS
  have hW0 : ∀ QQ : State → Prop, W p l e (headSpec wsX5_isClosed rmX5_isClosed).room s m (([.ref h_m, .int p0] : List Value).toArray) below meth c H locs 0 0 QQ (F0 m 0 ls []) → W p l e (headSpec wsX5_isClosed rmX5_isClosed).room s m (([.ref h_m, .int p0] : List Value).toArray) below meth c s.heap [] 0 0 QQ (F0 m 0 ls []) := by rw [hHe, hLe]; exact fun _ h => h
  refine hW0 _ ?_
  clear hW0
  unfold fX5_isClosed at h
  refine lv_aload_n hx hb dX5_isClosed_0 rfl (lv_at hl 0 rfl) ?_
  refine lv_aload_n hx hb dX5_isClosed_1 rfl (lv_at hl 0 rfl) ?_
  refine lv_iload_n hx hb dX5_isClosed_2 rfl (lv_at hl 1 rfl) ?_
  obtain ⟨v1, hq2, h⟩ := bd1_e h
  refine zz_cV (As := [.int p0]) ⟨hx, hb, hml, hown, hts⟩ (kX5_isSwitch l D cI cZ cL h_m a_one a_oth a_isb a_log a_seq a_mho a_mih a_far th nd sw so lo cl ea on lg wr pe p0 N hq2) (cwV 1 hts gX5_isClosed_X5_isSwitch rfl rfl rfl (by decide +kernel) ⟨Nat.le_of_ble_eq_true rfl, Nat.le_of_ble_eq_true rfl⟩) (hP.sub (ws' := [(h_m, .inr (5, [.int th, .int nd, .int sw, .int so, .int lo, .ref a_one, .ref a_oth, .ref a_isb, .int cl, .int ea, .int on, .int lg, .ref a_log, .int wr, .ref a_seq, .int pe, .ref a_mho, .ref a_mih, .ref a_far]))]) [0] rfl) hKK (va_recv hK hP (ci := 5) (q0 := 0) rfl rfl) rfl hl.1 rfl (Nat.le_of_ble_eq_true rfl) dX5_isClosed_3 ⟨Nat.le_of_ble_eq_true rfl, Nat.le_of_ble_eq_true rfl⟩ ?_
  refine jn1_e (fun (y3 : Int32) => ∀ (H : Heap) (locs : List Loc) (ls : Array Slot), va_P D vwCl [(h_m, .inr (5, [.int th, .int nd, .int sw, .int so, .int lo, .ref a_one, .ref a_oth, .ref a_isb, .int cl, .int ea, .int on, .int lg, .ref a_log, .int wr, .ref a_seq, .int pe, .ref a_mho, .ref a_mih, .ref a_far]))] H → va_D A [(h_m, .inr (5, [.int th, .int nd, .int sw, .int so, .int lo, .ref a_one, .ref a_oth, .ref a_isb, .int cl, .int ea, .int on, .int lg, .ref a_log, .int wr, .ref a_seq, .int pe, .ref a_mho, .ref a_mih, .ref a_far]))] → va_S A s.heap H locs → lv_has ls 2 [(0, .ref h_m), (1, .int p0)] → W p l e (headSpec wsX5_isClosed rmX5_isClosed).room s m (([.ref h_m, .int p0] : List Value).toArray) below meth c H locs 0 0 QQ (F0 m 14 ls [.int y3, .ref h_m])) h (fun y3 h H locs ls hP hD hS hl => ?_) (fun g14_4 hg14_5 h => ?_)
  · refine va_put (D := D) (ci := 5) (v := .int y3) (ty := .int) (C := RX5) (T := TX5) (N := 19) hx hb hts inX5_isClosed_X5 tyX5 tyX5_ok nmX5 hown hK hP hD hS 0 rfl rfl 0 (by decide) (hts _ lkX5_isClosed_0) (fun _ h9 => h9) rfl (by decide +kernel) rfl rfl (Nat.le_of_ble_eq_true rfl) dX5_isClosed_14 (fun H locs hP hD hS => ?_)
    have hP : va_P D vwCl [(h_m, .inr (5, [.int y3, .int nd, .int sw, .int so, .int lo, .ref a_one, .ref a_oth, .ref a_isb, .int cl, .int ea, .int on, .int lg, .ref a_log, .int wr, .ref a_seq, .int pe, .ref a_mho, .ref a_mih, .ref a_far]))] H := hP
    have hD : va_D A [(h_m, .inr (5, [.int y3, .int nd, .int sw, .int so, .int lo, .ref a_one, .ref a_oth, .ref a_isb, .int cl, .int ea, .int on, .int lg, .ref a_log, .int wr, .ref a_seq, .int pe, .ref a_mho, .ref a_mih, .ref a_far]))] := hD
    refine lv_aload_n hx hb dX5_isClosed_17 rfl (lv_at hl 0 rfl) ?_
    refine va_get (D := D) (ci := 5) (v := .int y3) (C := RX5) (T := TX5) (N := 19) hx hb hts inX5_isClosed_X5 hown hK hP 0 rfl rfl 0 (by decide) (hts _ lkX5_isClosed_0) (fun _ h9 => h9) rfl dX5_isClosed_18 ?_
    refine lv_if_ne (tgt := 39) hx hb dX5_isClosed_21 (by decide) (fun c6 => ?_) (fun c6 => ?_)
    · have h := it_f h c6
      refine lv_iconst (v := 0) hx hb dX5_isClosed_39 (by decide) ?_
      cases h
      rw [hQQ]
      exact W.zret hx hb hr (by decide) (fun t ht hW => ⟨rfl, by rw [ht]; exact hP, hD, hS.F ht⟩) hS.2.2 dX5_isClosed_40
    · have h := it_t h c6
      refine lv_aload_n hx hb dX5_isClosed_24 rfl (lv_at hl 0 rfl) ?_
      refine va_get (D := D) (ci := 5) (v := .int cl) (C := RX5) (T := TX5) (N := 19) hx hb hts inX5_isClosed_X5 hown hK hP 0 rfl rfl 8 (by decide) (hts _ lkX5_isClosed_1) (fun _ h9 => h9) rfl dX5_isClosed_25 ?_
      refine lv_iload_n hx hb dX5_isClosed_28 rfl (lv_at hl 1 rfl) ?_
      obtain ⟨v7, hq8, h⟩ := bd1_e h
      refine zz_cS (As := [.int cl, .int p0]) ⟨hx, hb, hml, hown, hts⟩ (kX5_has l D cI cZ cL cl p0 N hq8) (va_cwS 2 hts gX5_isClosed_X5_has rfl rfl rfl (by decide +kernel) ⟨Nat.le_of_ble_eq_true rfl, Nat.le_of_ble_eq_true rfl⟩) (hP.sub (ws' := []) [] rfl) hKK rfl hl.1 rfl (Nat.le_of_ble_eq_true rfl) dX5_isClosed_29 ⟨Nat.le_of_ble_eq_true rfl, Nat.le_of_ble_eq_true rfl⟩ ?_
      refine lv_if_eq (tgt := 39) hx hb dX5_isClosed_32 (by decide) (fun c9 => ?_) (fun c9 => ?_)
      · have h := it_t h c9
        refine lv_iconst (v := 0) hx hb dX5_isClosed_39 (by decide) ?_
        cases h
        rw [hQQ]
        exact W.zret hx hb hr (by decide) (fun t ht hW => ⟨rfl, by rw [ht]; exact hP, hD, hS.F ht⟩) hS.2.2 dX5_isClosed_40
      · have h := it_f h c9
        refine lv_iconst (v := 1) hx hb dX5_isClosed_35 (by decide) ?_
        refine lv_goto (tgt := 40) hx hb dX5_isClosed_36 (by decide) ?_
        cases h
        rw [hQQ]
        exact W.zret hx hb hr (by decide) (fun t ht hW => ⟨rfl, by rw [ht]; exact hP, hD, hS.F ht⟩) hS.2.2 dX5_isClosed_40
  · refine lv_if_eq (tgt := 13) hx hb dX5_isClosed_6 (by decide) (fun c10 => ?_) (fun c10 => ?_)
    · have h := it_t h c10
      refine lv_iconst (v := 1) hx hb dX5_isClosed_13 (by decide) ?_
      exact hg14_5 1 h H locs ls hP hD hS (lv_sub hl [0, 1] rfl)
    · have h := it_f h c10
      refine lv_iconst (v := 0) hx hb dX5_isClosed_9 (by decide) ?_
      refine lv_goto (tgt := 14) hx hb dX5_isClosed_10 (by decide) ?_
      exact hg14_5 0 h H locs ls hP hD hS (lv_sub hl [0, 1] rfl)

def fX5_live (N : Nat) (th : Int32) (nd : Int32) (sw : Int32) (so : Int32) (lo : Int32) (cl : Int32) (ea : Int32) (on : Int32) (lg : Int32) (wr : Int32) (pe : Int32) (one : Nat → Int32) (oth : Nat → Int32) : Option ((Int32) × (Int32)) :=
  it2 (fun g9_3 (x1 : Int32) (x2 : Int32) => (if nd ≤ x1 then some (x2, 0) else bd1 (fX5_isLive N 0 nd sw so lo cl ea on lg wr pe one oth x1 cl on) (fun v6 => (if v6 = 0 then g9_3 (x1 + 1) (x2 ||| 0) else g9_3 (x1 + 1) (x2 ||| ((1 : Int32) <<< (x1 &&& 31))))))) N 0 0
set_option maxRecDepth 100000 in
theorem inX5_live_X5 : ∀ w ∈ wsX50, w ∈ wsX5_live := by decide +kernel
set_option maxRecDepth 100000 in
theorem lkX5_live_0 : (.fieldLink RX5 35 "SwitchlogModel" "thrown" "I" : Cond) ∈ wsX5_live := by decide +kernel
set_option maxRecDepth 100000 in
theorem lkX5_live_1 : (.fieldLink RX5 39 "SwitchlogModel" "nodes" "I" : Cond) ∈ wsX5_live := by decide +kernel
set_option maxRecDepth 100000 in
theorem lkX5_live_2 : (.fieldLink RX5 76 "SwitchlogModel" "closed" "I" : Cond) ∈ wsX5_live := by decide +kernel
set_option maxRecDepth 100000 in
theorem lkX5_live_3 : (.fieldLink RX5 67 "SwitchlogModel" "on" "I" : Cond) ∈ wsX5_live := by decide +kernel
abbrev rmX5_live : Room := { frames := 3, cells := 0, slots := 0, locals := 70 }
set_option maxHeartbeats 4000000 in
set_option maxRecDepth 100000 in
theorem kX5_live (l : Launch) (D : va_G) (cI cZ cL : ClassId) (sz0 : Nat) (h_m a_isb a_log a_seq a_mho a_mih a_far h_one h_oth : Nat) (th : Int32) (nd : Int32) (sw : Int32) (so : Int32) (lo : Int32) (cl : Int32) (ea : Int32) (on : Int32) (lg : Int32) (wr : Int32) (pe : Int32) (one : Nat → Int32) (oth : Nat → Int32)  (N : Nat) {r : Int32} {r_0 : Int32} (h : fX5_live N th nd sw so lo cl ea on lg wr pe one oth  = some (r, r_0)) : Met l yX5_live wsX5_live rmX5_live (PM D cI cZ cL [.ref h_m] [(h_m, .inr (5, [.int th, .int nd, .int sw, .int so, .int lo, .ref h_one, .ref h_oth, .ref a_isb, .int cl, .int ea, .int on, .int lg, .ref a_log, .int wr, .ref a_seq, .int pe, .ref a_mho, .ref a_mih, .ref a_far])), (h_one, .inl (cI, 24, .inl one)), (h_oth, .inl (cI, 24, .inl oth))] sz0) (QM D (some (.int r)) (va_A [(h_m, .inr (5, [.int th, .int nd, .int sw, .int so, .int lo, .ref h_one, .ref h_oth, .ref a_isb, .int cl, .int ea, .int on, .int lg, .ref a_log, .int wr, .ref a_seq, .int pe, .ref a_mho, .ref a_mih, .ref a_far])), (h_one, .inl (cI, 24, .inl one)), (h_oth, .inl (cI, 24, .inl oth))] sz0) [(h_m, .inr (5, [.int r_0, .int nd, .int sw, .int so, .int lo, .ref h_one, .ref h_oth, .ref a_isb, .int cl, .int ea, .int on, .int lg, .ref a_log, .int wr, .ref a_seq, .int pe, .ref a_mho, .ref a_mih, .ref a_far])), (h_one, .inl (cI, 24, .inl one)), (h_oth, .inl (cI, 24, .inl oth))]) 0 0 (va_A [(h_m, .inr (5, [.int th, .int nd, .int sw, .int so, .int lo, .ref h_one, .ref h_oth, .ref a_isb, .int cl, .int ea, .int on, .int lg, .ref a_log, .int wr, .ref a_seq, .int pe, .ref a_mho, .ref a_mih, .ref a_far])), (h_one, .inl (cI, 24, .inl one)), (h_oth, .inl (cI, 24, .inl oth))] sz0) := by
  refine Met.ofW (cc := cX5_live) (maxL := 3) (ret := (some .int)) (by decide) rfl ?_
  intro p e s m args below meth c s₁ B hml hv
  obtain ⟨rfl, hsz, hP, hKK, hD0⟩ := hv
  have hK := hKK.1
  have hx := B.exec
  have hb := B.bytes
  have hr := B.returns
  have hts := atoms_spec (ws := wsX5_live) B.pre
  have hown : s.vm.findClass RX5 = some m.cls := findClass_of_methodNamed B.named
  have hlocks := B.notSynchronized
  subst hsz
  have hD := hD0.self (sz := s.heap.size)
  generalize hAe : va_A [(h_m, .inr (5, [.int th, .int nd, .int sw, .int so, .int lo, .ref h_one, .ref h_oth, .ref a_isb, .int cl, .int ea, .int on, .int lg, .ref a_log, .int wr, .ref a_seq, .int pe, .ref a_mho, .ref a_mih, .ref a_far])), (h_one, .inl (cI, 24, .inl one)), (h_oth, .inl (cI, 24, .inl oth))] s.heap.size = A at hD ⊢
  have hA : ∀ q : Nat, s.heap.size ≤ q → A q := fun q h => by rw [← hAe]; exact Or.inr h
  have hS : va_S A s.heap s.heap [] := va_S.rf
  have hl := lv_entry ([.ref h_m]) (n := 3) (Nat.le_of_ble_eq_true rfl)
  rw [lg_entry_eq]
  generalize (lg_sl ([.ref h_m]) ++ List.replicate (3 - (lg_sl ([.ref h_m])).length) Slot.unset).toArray = ls at hl ⊢
  have hl : lv_has ls 3 [(0, .ref h_m)] := hl
  obtain ⟨QQ, hQQ⟩ : ∃ Z, Z = MQ below (QM D (some (.int r)) A [(h_m, .inr (5, [.int r_0, .int nd, .int sw, .int so, .int lo, .ref h_one, .ref h_oth, .ref a_isb, .int cl, .int ea, .int on, .int lg, .ref a_log, .int wr, .ref a_seq, .int pe, .ref a_mho, .ref a_mih, .ref a_far])), (h_one, .inl (cI, 24, .inl one)), (h_oth, .inl (cI, 24, .inl oth))]) ([.ref h_m] : List Value).toArray s 0 0 A := ⟨_, rfl⟩
  rw [← hQQ]
  obtain ⟨H, locs, hHe, hLe⟩ : ∃ (H : Heap) (locs : List Loc), H = s.heap ∧ locs = [] := ⟨_, _, rfl, rfl⟩
  have hP : va_P D vwCl [(h_m, .inr (5, [.int th, .int nd, .int sw, .int so, .int lo, .ref h_one, .ref h_oth, .ref a_isb, .int cl, .int ea, .int on, .int lg, .ref a_log, .int wr, .ref a_seq, .int pe, .ref a_mho, .ref a_mih, .ref a_far])), (h_one, .inl (cI, 24, .inl one)), (h_oth, .inl (cI, 24, .inl oth))] H := by rw [hHe]; exact hP
  have hS : va_S A s.heap H locs := by rw [hHe, hLe]; exact hS
  have hW0 : ∀ QQ : State → Prop, W p l e (headSpec wsX5_live rmX5_live).room s m (([.ref h_m] : List Value).toArray) below meth c H locs 0 0 QQ (F0 m 0 ls []) → W p l e (headSpec wsX5_live rmX5_live).room s m (([.ref h_m] : List Value).toArray) below meth c s.heap [] 0 0 QQ (F0 m 0 ls []) := by rw [hHe, hLe]; exact fun _ h => h
  refine hW0 _ ?_
  clear hW0
  unfold fX5_live at h
  refine lv_aload_n hx hb dX5_live_0 rfl (lv_at hl 0 rfl) ?_
  refine lv_iconst (v := 0) hx hb dX5_live_1 (by decide) ?_
  refine va_put (D := D) (ci := 5) (v := .int 0) (ty := .int) (C := RX5) (T := TX5) (N := 19) hx hb hts inX5_live_X5 tyX5 tyX5_ok nmX5 hown hK hP hD hS 0 rfl rfl 0 (by decide) (hts _ lkX5_live_0) (fun _ h9 => h9) rfl (by decide +kernel) rfl rfl (Nat.le_of_ble_eq_true rfl) dX5_live_2 (fun H locs hP hD hS => ?_)
  have hP : va_P D vwCl [(h_m, .inr (5, [.int 0, .int nd, .int sw, .int so, .int lo, .ref h_one, .ref h_oth, .ref a_isb, .int cl, .int ea, .int on, .int lg, .ref a_log, .int wr, .ref a_seq, .int pe, .ref a_mho, .ref a_mih, .ref a_far])), (h_one, .inl (cI, 24, .inl one)), (h_oth, .inl (cI, 24, .inl oth))] H := hP
  have hD : va_D A [(h_m, .inr (5, [.int 0, .int nd, .int sw, .int so, .int lo, .ref h_one, .ref h_oth, .ref a_isb, .int cl, .int ea, .int on, .int lg, .ref a_log, .int wr, .ref a_seq, .int pe, .ref a_mho, .ref a_mih, .ref a_far])), (h_one, .inl (cI, 24, .inl one)), (h_oth, .inl (cI, 24, .inl oth))] := hD
  refine lv_iconst (v := 0) hx hb dX5_live_5 (by decide) ?_
  refine lv_istore_n (lv' := [(1, .int 0), (0, .ref h_m)]) hx hb dX5_live_6 rfl hl (by decide) rfl (fun ls hl => ?_)
  refine lv_iconst (v := 0) hx hb dX5_live_7 (by decide) ?_
  refine lv_istore_n (lv' := [(2, .int 0), (1, .int 0), (0, .ref h_m)]) hx hb dX5_live_8 rfl hl (by decide) rfl (fun ls hl => ?_)
  refine it2_e (fun (x1 : Int32) (x2 : Int32) => ∀ (H : Heap) (locs : List Loc) (ls : Array Slot), va_P D vwCl [(h_m, .inr (5, [.int 0, .int nd, .int sw, .int so, .int lo, .ref h_one, .ref h_oth, .ref a_isb, .int cl, .int ea, .int on, .int lg, .ref a_log, .int wr, .ref a_seq, .int pe, .ref a_mho, .ref a_mih, .ref a_far])), (h_one, .inl (cI, 24, .inl one)), (h_oth, .inl (cI, 24, .inl oth))] H → va_D A [(h_m, .inr (5, [.int 0, .int nd, .int sw, .int so, .int lo, .ref h_one, .ref h_oth, .ref a_isb, .int cl, .int ea, .int on, .int lg, .ref a_log, .int wr, .ref a_seq, .int pe, .ref a_mho, .ref a_mih, .ref a_far])), (h_one, .inl (cI, 24, .inl one)), (h_oth, .inl (cI, 24, .inl oth))] → va_S A s.heap H locs → lv_has ls 3 [(2, .int x1), (1, .int x2), (0, .ref h_m)] → W p l e (headSpec wsX5_live rmX5_live).room s m (([.ref h_m] : List Value).toArray) below meth c H locs 0 0 QQ (F0 m 9 ls [])) (fun g9_3 hg9_4 x1 x2 h H locs ls hP hD hS hl => ?_) N 0 0 h H locs ls hP hD hS (lv_sub hl [0, 1, 2] rfl)
  refine lv_iload_n hx hb dX5_live_9 rfl (lv_at hl 0 rfl) ?_
  refine lv_aload_n hx hb dX5_live_10 rfl (lv_at hl 2 rfl) ?_
  refine va_get (D := D) (ci := 5) (v := .int nd) (C := RX5) (T := TX5) (N := 19) hx hb hts inX5_live_X5 hown hK hP 0 rfl rfl 1 (by decide) (hts _ lkX5_live_1) (fun _ h9 => h9) rfl dX5_live_11 ?_
  refine lv_icmp_ge (tgt := 49) hx hb dX5_live_14 (by decide) (fun c5 => ?_) (fun c5 => ?_)
  · have h := it_t h c5
    refine lv_iload_n hx hb dX5_live_49 rfl (lv_at hl 1 rfl) ?_
    cases h
    rw [hQQ]
    exact W.iret hx hb hr (fun t ht hW => ⟨rfl, by rw [ht]; exact hP, hD, hS.F ht⟩) hS.2.2 dX5_live_50
  · have h := it_f h c5
    refine lv_iload_n hx hb dX5_live_17 rfl (lv_at hl 1 rfl) ?_
    refine lv_aload_n hx hb dX5_live_18 rfl (lv_at hl 2 rfl) ?_
    refine lv_iload_n hx hb dX5_live_19 rfl (lv_at hl 0 rfl) ?_
    refine lv_aload_n hx hb dX5_live_20 rfl (lv_at hl 2 rfl) ?_
    refine va_get (D := D) (ci := 5) (v := .int cl) (C := RX5) (T := TX5) (N := 19) hx hb hts inX5_live_X5 hown hK hP 0 rfl rfl 8 (by decide) (hts _ lkX5_live_2) (fun _ h9 => h9) rfl dX5_live_21 ?_
    refine lv_aload_n hx hb dX5_live_24 rfl (lv_at hl 2 rfl) ?_
    refine va_get (D := D) (ci := 5) (v := .int on) (C := RX5) (T := TX5) (N := 19) hx hb hts inX5_live_X5 hown hK hP 0 rfl rfl 10 (by decide) (hts _ lkX5_live_3) (fun _ h9 => h9) rfl dX5_live_25 ?_
    obtain ⟨v6, hq7, h⟩ := bd1_e h
    refine zz_cV (As := [.int x1, .int cl, .int on]) ⟨hx, hb, hml, hown, hts⟩ (kX5_isLive l D cI cZ cL h_m a_isb a_log a_seq a_mho a_mih a_far h_one h_oth 0 nd sw so lo cl ea on lg wr pe one oth x1 cl on N hq7) (cwV 3 hts gX5_live_X5_isLive rfl rfl rfl (by decide +kernel) ⟨Nat.le_of_ble_eq_true rfl, Nat.le_of_ble_eq_true rfl⟩) (hP.sub (ws' := [(h_m, .inr (5, [.int 0, .int nd, .int sw, .int so, .int lo, .ref h_one, .ref h_oth, .ref a_isb, .int cl, .int ea, .int on, .int lg, .ref a_log, .int wr, .ref a_seq, .int pe, .ref a_mho, .ref a_mih, .ref a_far])), (h_one, .inl (cI, 24, .inl one)), (h_oth, .inl (cI, 24, .inl oth))]) [0, 1, 2] rfl) hKK (va_recv hK hP (ci := 5) (q0 := 0) rfl rfl) rfl hl.1 rfl (Nat.le_of_ble_eq_true rfl) dX5_live_28 ⟨Nat.le_of_ble_eq_true rfl, Nat.le_of_ble_eq_true rfl⟩ ?_
    refine lv_if_eq (tgt := 40) hx hb dX5_live_31 (by decide) (fun c8 => ?_) (fun c8 => ?_)
    · have h := it_t h c8
      refine lv_iconst (v := 0) hx hb dX5_live_40 (by decide) ?_
      refine lv_ior hx hb dX5_live_41 ?_
      refine lv_istore_n (lv' := [(1, .int (x2 ||| 0)), (2, .int x1), (0, .ref h_m)]) hx hb dX5_live_42 rfl hl (by decide) rfl (fun ls hl => ?_)
      refine lv_iinc (v := x1 + 1) (lv' := [(2, .int (x1 + 1)), (1, .int (x2 ||| 0)), (0, .ref h_m)]) hx hb dX5_live_43 hl (k := 1) rfl rfl (by decide) rfl (fun ls hl => ?_)
      refine lv_goto (tgt := 9) hx hb dX5_live_46 (by decide) ?_
      exact hg9_4 (x1 + 1) (x2 ||| 0) h H locs ls hP hD hS (lv_sub hl [0, 1, 2] rfl)
    · have h := it_f h c8
      refine lv_iconst (v := 1) hx hb dX5_live_34 (by decide) ?_
      refine lv_iload_n hx hb dX5_live_35 rfl (lv_at hl 0 rfl) ?_
      refine lv_ishl hx hb dX5_live_36 ?_
      refine lv_goto (tgt := 41) hx hb dX5_live_37 (by decide) ?_
      refine lv_ior hx hb dX5_live_41 ?_
      refine lv_istore_n (lv' := [(1, .int (x2 ||| ((1 : Int32) <<< (x1 &&& 31)))), (2, .int x1), (0, .ref h_m)]) hx hb dX5_live_42 rfl hl (by decide) rfl (fun ls hl => ?_)
      refine lv_iinc (v := x1 + 1) (lv' := [(2, .int (x1 + 1)), (1, .int (x2 ||| ((1 : Int32) <<< (x1 &&& 31)))), (0, .ref h_m)]) hx hb dX5_live_43 hl (k := 1) rfl rfl (by decide) rfl (fun ls hl => ?_)
      refine lv_goto (tgt := 9) hx hb dX5_live_46 (by decide) ?_
      exact hg9_4 (x1 + 1) (x2 ||| ((1 : Int32) <<< (x1 &&& 31))) h H locs ls hP hD hS (lv_sub hl [0, 1, 2] rfl)

def fX5_loaded (N : Nat) (th : Int32) (nd : Int32) (sw : Int32) (so : Int32) (lo : Int32) (cl : Int32) (ea : Int32) (on : Int32) (lg : Int32) (wr : Int32) (pe : Int32) (one : Nat → Int32) (oth : Nat → Int32) : Option ((Int32) × (Int32)) :=
  it2 (fun g9_3 (x1 : Int32) (x2 : Int32) => (if nd ≤ x1 then some (x2, 0) else bd1 (fX5_isLoaded N 0 nd sw so lo cl ea on lg wr pe one oth x1 cl) (fun v6 => (if v6 = 0 then g9_3 (x1 + 1) (x2 ||| 0) else g9_3 (x1 + 1) (x2 ||| ((1 : Int32) <<< (x1 &&& 31))))))) N 0 0
set_option maxRecDepth 100000 in
theorem inX5_loaded_X5 : ∀ w ∈ wsX50, w ∈ wsX5_loaded := by decide +kernel
set_option maxRecDepth 100000 in
theorem lkX5_loaded_0 : (.fieldLink RX5 35 "SwitchlogModel" "thrown" "I" : Cond) ∈ wsX5_loaded := by decide +kernel
set_option maxRecDepth 100000 in
theorem lkX5_loaded_1 : (.fieldLink RX5 39 "SwitchlogModel" "nodes" "I" : Cond) ∈ wsX5_loaded := by decide +kernel
set_option maxRecDepth 100000 in
theorem lkX5_loaded_2 : (.fieldLink RX5 76 "SwitchlogModel" "closed" "I" : Cond) ∈ wsX5_loaded := by decide +kernel
abbrev rmX5_loaded : Room := { frames := 4, cells := 0, slots := 0, locals := 92 }
set_option maxHeartbeats 4000000 in
set_option maxRecDepth 100000 in
theorem kX5_loaded (l : Launch) (D : va_G) (cI cZ cL : ClassId) (sz0 : Nat) (h_m a_isb a_log a_seq a_mho a_mih a_far h_one h_oth : Nat) (th : Int32) (nd : Int32) (sw : Int32) (so : Int32) (lo : Int32) (cl : Int32) (ea : Int32) (on : Int32) (lg : Int32) (wr : Int32) (pe : Int32) (one : Nat → Int32) (oth : Nat → Int32)  (N : Nat) {r : Int32} {r_0 : Int32} (h : fX5_loaded N th nd sw so lo cl ea on lg wr pe one oth  = some (r, r_0)) : Met l yX5_loaded wsX5_loaded rmX5_loaded (PM D cI cZ cL [.ref h_m] [(h_m, .inr (5, [.int th, .int nd, .int sw, .int so, .int lo, .ref h_one, .ref h_oth, .ref a_isb, .int cl, .int ea, .int on, .int lg, .ref a_log, .int wr, .ref a_seq, .int pe, .ref a_mho, .ref a_mih, .ref a_far])), (h_one, .inl (cI, 24, .inl one)), (h_oth, .inl (cI, 24, .inl oth))] sz0) (QM D (some (.int r)) (va_A [(h_m, .inr (5, [.int th, .int nd, .int sw, .int so, .int lo, .ref h_one, .ref h_oth, .ref a_isb, .int cl, .int ea, .int on, .int lg, .ref a_log, .int wr, .ref a_seq, .int pe, .ref a_mho, .ref a_mih, .ref a_far])), (h_one, .inl (cI, 24, .inl one)), (h_oth, .inl (cI, 24, .inl oth))] sz0) [(h_m, .inr (5, [.int r_0, .int nd, .int sw, .int so, .int lo, .ref h_one, .ref h_oth, .ref a_isb, .int cl, .int ea, .int on, .int lg, .ref a_log, .int wr, .ref a_seq, .int pe, .ref a_mho, .ref a_mih, .ref a_far])), (h_one, .inl (cI, 24, .inl one)), (h_oth, .inl (cI, 24, .inl oth))]) 0 0 (va_A [(h_m, .inr (5, [.int th, .int nd, .int sw, .int so, .int lo, .ref h_one, .ref h_oth, .ref a_isb, .int cl, .int ea, .int on, .int lg, .ref a_log, .int wr, .ref a_seq, .int pe, .ref a_mho, .ref a_mih, .ref a_far])), (h_one, .inl (cI, 24, .inl one)), (h_oth, .inl (cI, 24, .inl oth))] sz0) := by
  refine Met.ofW (cc := cX5_loaded) (maxL := 3) (ret := (some .int)) (by decide) rfl ?_
  intro p e s m args below meth c s₁ B hml hv
  obtain ⟨rfl, hsz, hP, hKK, hD0⟩ := hv
  have hK := hKK.1
  have hx := B.exec
  have hb := B.bytes
  have hr := B.returns
  have hts := atoms_spec (ws := wsX5_loaded) B.pre
  have hown : s.vm.findClass RX5 = some m.cls := findClass_of_methodNamed B.named
  have hlocks := B.notSynchronized
  subst hsz
  have hD := hD0.self (sz := s.heap.size)
  generalize hAe : va_A [(h_m, .inr (5, [.int th, .int nd, .int sw, .int so, .int lo, .ref h_one, .ref h_oth, .ref a_isb, .int cl, .int ea, .int on, .int lg, .ref a_log, .int wr, .ref a_seq, .int pe, .ref a_mho, .ref a_mih, .ref a_far])), (h_one, .inl (cI, 24, .inl one)), (h_oth, .inl (cI, 24, .inl oth))] s.heap.size = A at hD ⊢
  have hA : ∀ q : Nat, s.heap.size ≤ q → A q := fun q h => by rw [← hAe]; exact Or.inr h
  have hS : va_S A s.heap s.heap [] := va_S.rf
  have hl := lv_entry ([.ref h_m]) (n := 3) (Nat.le_of_ble_eq_true rfl)
  rw [lg_entry_eq]
  generalize (lg_sl ([.ref h_m]) ++ List.replicate (3 - (lg_sl ([.ref h_m])).length) Slot.unset).toArray = ls at hl ⊢
  have hl : lv_has ls 3 [(0, .ref h_m)] := hl
  obtain ⟨QQ, hQQ⟩ : ∃ Z, Z = MQ below (QM D (some (.int r)) A [(h_m, .inr (5, [.int r_0, .int nd, .int sw, .int so, .int lo, .ref h_one, .ref h_oth, .ref a_isb, .int cl, .int ea, .int on, .int lg, .ref a_log, .int wr, .ref a_seq, .int pe, .ref a_mho, .ref a_mih, .ref a_far])), (h_one, .inl (cI, 24, .inl one)), (h_oth, .inl (cI, 24, .inl oth))]) ([.ref h_m] : List Value).toArray s 0 0 A := ⟨_, rfl⟩
  rw [← hQQ]
  obtain ⟨H, locs, hHe, hLe⟩ : ∃ (H : Heap) (locs : List Loc), H = s.heap ∧ locs = [] := ⟨_, _, rfl, rfl⟩
  have hP : va_P D vwCl [(h_m, .inr (5, [.int th, .int nd, .int sw, .int so, .int lo, .ref h_one, .ref h_oth, .ref a_isb, .int cl, .int ea, .int on, .int lg, .ref a_log, .int wr, .ref a_seq, .int pe, .ref a_mho, .ref a_mih, .ref a_far])), (h_one, .inl (cI, 24, .inl one)), (h_oth, .inl (cI, 24, .inl oth))] H := by rw [hHe]; exact hP
  have hS : va_S A s.heap H locs := by rw [hHe, hLe]; exact hS
  have hW0 : ∀ QQ : State → Prop, W p l e (headSpec wsX5_loaded rmX5_loaded).room s m (([.ref h_m] : List Value).toArray) below meth c H locs 0 0 QQ (F0 m 0 ls []) → W p l e (headSpec wsX5_loaded rmX5_loaded).room s m (([.ref h_m] : List Value).toArray) below meth c s.heap [] 0 0 QQ (F0 m 0 ls []) := by rw [hHe, hLe]; exact fun _ h => h
  refine hW0 _ ?_
  clear hW0
  unfold fX5_loaded at h
  refine lv_aload_n hx hb dX5_loaded_0 rfl (lv_at hl 0 rfl) ?_
  refine lv_iconst (v := 0) hx hb dX5_loaded_1 (by decide) ?_
  refine va_put (D := D) (ci := 5) (v := .int 0) (ty := .int) (C := RX5) (T := TX5) (N := 19) hx hb hts inX5_loaded_X5 tyX5 tyX5_ok nmX5 hown hK hP hD hS 0 rfl rfl 0 (by decide) (hts _ lkX5_loaded_0) (fun _ h9 => h9) rfl (by decide +kernel) rfl rfl (Nat.le_of_ble_eq_true rfl) dX5_loaded_2 (fun H locs hP hD hS => ?_)
  have hP : va_P D vwCl [(h_m, .inr (5, [.int 0, .int nd, .int sw, .int so, .int lo, .ref h_one, .ref h_oth, .ref a_isb, .int cl, .int ea, .int on, .int lg, .ref a_log, .int wr, .ref a_seq, .int pe, .ref a_mho, .ref a_mih, .ref a_far])), (h_one, .inl (cI, 24, .inl one)), (h_oth, .inl (cI, 24, .inl oth))] H := hP
  have hD : va_D A [(h_m, .inr (5, [.int 0, .int nd, .int sw, .int so, .int lo, .ref h_one, .ref h_oth, .ref a_isb, .int cl, .int ea, .int on, .int lg, .ref a_log, .int wr, .ref a_seq, .int pe, .ref a_mho, .ref a_mih, .ref a_far])), (h_one, .inl (cI, 24, .inl one)), (h_oth, .inl (cI, 24, .inl oth))] := hD
  refine lv_iconst (v := 0) hx hb dX5_loaded_5 (by decide) ?_
  refine lv_istore_n (lv' := [(1, .int 0), (0, .ref h_m)]) hx hb dX5_loaded_6 rfl hl (by decide) rfl (fun ls hl => ?_)
  refine lv_iconst (v := 0) hx hb dX5_loaded_7 (by decide) ?_
  refine lv_istore_n (lv' := [(2, .int 0), (1, .int 0), (0, .ref h_m)]) hx hb dX5_loaded_8 rfl hl (by decide) rfl (fun ls hl => ?_)
  refine it2_e (fun (x1 : Int32) (x2 : Int32) => ∀ (H : Heap) (locs : List Loc) (ls : Array Slot), va_P D vwCl [(h_m, .inr (5, [.int 0, .int nd, .int sw, .int so, .int lo, .ref h_one, .ref h_oth, .ref a_isb, .int cl, .int ea, .int on, .int lg, .ref a_log, .int wr, .ref a_seq, .int pe, .ref a_mho, .ref a_mih, .ref a_far])), (h_one, .inl (cI, 24, .inl one)), (h_oth, .inl (cI, 24, .inl oth))] H → va_D A [(h_m, .inr (5, [.int 0, .int nd, .int sw, .int so, .int lo, .ref h_one, .ref h_oth, .ref a_isb, .int cl, .int ea, .int on, .int lg, .ref a_log, .int wr, .ref a_seq, .int pe, .ref a_mho, .ref a_mih, .ref a_far])), (h_one, .inl (cI, 24, .inl one)), (h_oth, .inl (cI, 24, .inl oth))] → va_S A s.heap H locs → lv_has ls 3 [(2, .int x1), (1, .int x2), (0, .ref h_m)] → W p l e (headSpec wsX5_loaded rmX5_loaded).room s m (([.ref h_m] : List Value).toArray) below meth c H locs 0 0 QQ (F0 m 9 ls [])) (fun g9_3 hg9_4 x1 x2 h H locs ls hP hD hS hl => ?_) N 0 0 h H locs ls hP hD hS (lv_sub hl [0, 1, 2] rfl)
  refine lv_iload_n hx hb dX5_loaded_9 rfl (lv_at hl 0 rfl) ?_
  refine lv_aload_n hx hb dX5_loaded_10 rfl (lv_at hl 2 rfl) ?_
  refine va_get (D := D) (ci := 5) (v := .int nd) (C := RX5) (T := TX5) (N := 19) hx hb hts inX5_loaded_X5 hown hK hP 0 rfl rfl 1 (by decide) (hts _ lkX5_loaded_1) (fun _ h9 => h9) rfl dX5_loaded_11 ?_
  refine lv_icmp_ge (tgt := 45) hx hb dX5_loaded_14 (by decide) (fun c5 => ?_) (fun c5 => ?_)
  · have h := it_t h c5
    refine lv_iload_n hx hb dX5_loaded_45 rfl (lv_at hl 1 rfl) ?_
    cases h
    rw [hQQ]
    exact W.iret hx hb hr (fun t ht hW => ⟨rfl, by rw [ht]; exact hP, hD, hS.F ht⟩) hS.2.2 dX5_loaded_46
  · have h := it_f h c5
    refine lv_iload_n hx hb dX5_loaded_17 rfl (lv_at hl 1 rfl) ?_
    refine lv_aload_n hx hb dX5_loaded_18 rfl (lv_at hl 2 rfl) ?_
    refine lv_iload_n hx hb dX5_loaded_19 rfl (lv_at hl 0 rfl) ?_
    refine lv_aload_n hx hb dX5_loaded_20 rfl (lv_at hl 2 rfl) ?_
    refine va_get (D := D) (ci := 5) (v := .int cl) (C := RX5) (T := TX5) (N := 19) hx hb hts inX5_loaded_X5 hown hK hP 0 rfl rfl 8 (by decide) (hts _ lkX5_loaded_2) (fun _ h9 => h9) rfl dX5_loaded_21 ?_
    obtain ⟨v6, hq7, h⟩ := bd1_e h
    refine zz_cV (As := [.int x1, .int cl]) ⟨hx, hb, hml, hown, hts⟩ (kX5_isLoaded l D cI cZ cL h_m a_isb a_log a_seq a_mho a_mih a_far h_one h_oth 0 nd sw so lo cl ea on lg wr pe one oth x1 cl N hq7) (cwV 2 hts gX5_loaded_X5_isLoaded rfl rfl rfl (by decide +kernel) ⟨Nat.le_of_ble_eq_true rfl, Nat.le_of_ble_eq_true rfl⟩) (hP.sub (ws' := [(h_m, .inr (5, [.int 0, .int nd, .int sw, .int so, .int lo, .ref h_one, .ref h_oth, .ref a_isb, .int cl, .int ea, .int on, .int lg, .ref a_log, .int wr, .ref a_seq, .int pe, .ref a_mho, .ref a_mih, .ref a_far])), (h_one, .inl (cI, 24, .inl one)), (h_oth, .inl (cI, 24, .inl oth))]) [0, 1, 2] rfl) hKK (va_recv hK hP (ci := 5) (q0 := 0) rfl rfl) rfl hl.1 rfl (Nat.le_of_ble_eq_true rfl) dX5_loaded_24 ⟨Nat.le_of_ble_eq_true rfl, Nat.le_of_ble_eq_true rfl⟩ ?_
    refine lv_if_eq (tgt := 36) hx hb dX5_loaded_27 (by decide) (fun c8 => ?_) (fun c8 => ?_)
    · have h := it_t h c8
      refine lv_iconst (v := 0) hx hb dX5_loaded_36 (by decide) ?_
      refine lv_ior hx hb dX5_loaded_37 ?_
      refine lv_istore_n (lv' := [(1, .int (x2 ||| 0)), (2, .int x1), (0, .ref h_m)]) hx hb dX5_loaded_38 rfl hl (by decide) rfl (fun ls hl => ?_)
      refine lv_iinc (v := x1 + 1) (lv' := [(2, .int (x1 + 1)), (1, .int (x2 ||| 0)), (0, .ref h_m)]) hx hb dX5_loaded_39 hl (k := 1) rfl rfl (by decide) rfl (fun ls hl => ?_)
      refine lv_goto (tgt := 9) hx hb dX5_loaded_42 (by decide) ?_
      exact hg9_4 (x1 + 1) (x2 ||| 0) h H locs ls hP hD hS (lv_sub hl [0, 1, 2] rfl)
    · have h := it_f h c8
      refine lv_iconst (v := 1) hx hb dX5_loaded_30 (by decide) ?_
      refine lv_iload_n hx hb dX5_loaded_31 rfl (lv_at hl 0 rfl) ?_
      refine lv_ishl hx hb dX5_loaded_32 ?_
      refine lv_goto (tgt := 37) hx hb dX5_loaded_33 (by decide) ?_
      refine lv_ior hx hb dX5_loaded_37 ?_
      refine lv_istore_n (lv' := [(1, .int (x2 ||| ((1 : Int32) <<< (x1 &&& 31)))), (2, .int x1), (0, .ref h_m)]) hx hb dX5_loaded_38 rfl hl (by decide) rfl (fun ls hl => ?_)
      refine lv_iinc (v := x1 + 1) (lv' := [(2, .int (x1 + 1)), (1, .int (x2 ||| ((1 : Int32) <<< (x1 &&& 31)))), (0, .ref h_m)]) hx hb dX5_loaded_39 hl (k := 1) rfl rfl (by decide) rfl (fun ls hl => ?_)
      refine lv_goto (tgt := 9) hx hb dX5_loaded_42 (by decide) ?_
      exact hg9_4 (x1 + 1) (x2 ||| ((1 : Int32) <<< (x1 &&& 31))) h H locs ls hP hD hS (lv_sub hl [0, 1, 2] rfl)

def fX5_earthed (N : Nat) (th : Int32) (nd : Int32) (sw : Int32) (so : Int32) (lo : Int32) (cl : Int32) (ea : Int32) (on : Int32) (lg : Int32) (wr : Int32) (pe : Int32) (one : Nat → Int32) (oth : Nat → Int32) : Option ((Int32) × (Int32)) :=
  it2 (fun g9_3 (x1 : Int32) (x2 : Int32) => (if nd ≤ x1 then some (x2, 0) else bd1 (fX5_isEarthed N 0 nd sw so lo cl ea on lg wr pe one oth x1 cl ea) (fun v6 => (if v6 = 0 then g9_3 (x1 + 1) (x2 ||| 0) else g9_3 (x1 + 1) (x2 ||| ((1 : Int32) <<< (x1 &&& 31))))))) N 0 0
set_option maxRecDepth 100000 in
theorem inX5_earthed_X5 : ∀ w ∈ wsX50, w ∈ wsX5_earthed := by decide +kernel
set_option maxRecDepth 100000 in
theorem lkX5_earthed_0 : (.fieldLink RX5 35 "SwitchlogModel" "thrown" "I" : Cond) ∈ wsX5_earthed := by decide +kernel
set_option maxRecDepth 100000 in
theorem lkX5_earthed_1 : (.fieldLink RX5 39 "SwitchlogModel" "nodes" "I" : Cond) ∈ wsX5_earthed := by decide +kernel
set_option maxRecDepth 100000 in
theorem lkX5_earthed_2 : (.fieldLink RX5 76 "SwitchlogModel" "closed" "I" : Cond) ∈ wsX5_earthed := by decide +kernel
set_option maxRecDepth 100000 in
theorem lkX5_earthed_3 : (.fieldLink RX5 79 "SwitchlogModel" "earths" "I" : Cond) ∈ wsX5_earthed := by decide +kernel
abbrev rmX5_earthed : Room := { frames := 3, cells := 0, slots := 0, locals := 70 }
set_option maxHeartbeats 4000000 in
set_option maxRecDepth 100000 in
theorem kX5_earthed (l : Launch) (D : va_G) (cI cZ cL : ClassId) (sz0 : Nat) (h_m a_isb a_log a_seq a_mho a_mih a_far h_one h_oth : Nat) (th : Int32) (nd : Int32) (sw : Int32) (so : Int32) (lo : Int32) (cl : Int32) (ea : Int32) (on : Int32) (lg : Int32) (wr : Int32) (pe : Int32) (one : Nat → Int32) (oth : Nat → Int32)  (N : Nat) {r : Int32} {r_0 : Int32} (h : fX5_earthed N th nd sw so lo cl ea on lg wr pe one oth  = some (r, r_0)) : Met l yX5_earthed wsX5_earthed rmX5_earthed (PM D cI cZ cL [.ref h_m] [(h_m, .inr (5, [.int th, .int nd, .int sw, .int so, .int lo, .ref h_one, .ref h_oth, .ref a_isb, .int cl, .int ea, .int on, .int lg, .ref a_log, .int wr, .ref a_seq, .int pe, .ref a_mho, .ref a_mih, .ref a_far])), (h_one, .inl (cI, 24, .inl one)), (h_oth, .inl (cI, 24, .inl oth))] sz0) (QM D (some (.int r)) (va_A [(h_m, .inr (5, [.int th, .int nd, .int sw, .int so, .int lo, .ref h_one, .ref h_oth, .ref a_isb, .int cl, .int ea, .int on, .int lg, .ref a_log, .int wr, .ref a_seq, .int pe, .ref a_mho, .ref a_mih, .ref a_far])), (h_one, .inl (cI, 24, .inl one)), (h_oth, .inl (cI, 24, .inl oth))] sz0) [(h_m, .inr (5, [.int r_0, .int nd, .int sw, .int so, .int lo, .ref h_one, .ref h_oth, .ref a_isb, .int cl, .int ea, .int on, .int lg, .ref a_log, .int wr, .ref a_seq, .int pe, .ref a_mho, .ref a_mih, .ref a_far])), (h_one, .inl (cI, 24, .inl one)), (h_oth, .inl (cI, 24, .inl oth))]) 0 0 (va_A [(h_m, .inr (5, [.int th, .int nd, .int sw, .int so, .int lo, .ref h_one, .ref h_oth, .ref a_isb, .int cl, .int ea, .int on, .int lg, .ref a_log, .int wr, .ref a_seq, .int pe, .ref a_mho, .ref a_mih, .ref a_far])), (h_one, .inl (cI, 24, .inl one)), (h_oth, .inl (cI, 24, .inl oth))] sz0) := by
  refine Met.ofW (cc := cX5_earthed) (maxL := 3) (ret := (some .int)) (by decide) rfl ?_
  intro p e s m args below meth c s₁ B hml hv
  obtain ⟨rfl, hsz, hP, hKK, hD0⟩ := hv
  have hK := hKK.1
  have hx := B.exec
  have hb := B.bytes
  have hr := B.returns
  have hts := atoms_spec (ws := wsX5_earthed) B.pre
  have hown : s.vm.findClass RX5 = some m.cls := findClass_of_methodNamed B.named
  have hlocks := B.notSynchronized
  subst hsz
  have hD := hD0.self (sz := s.heap.size)
  generalize hAe : va_A [(h_m, .inr (5, [.int th, .int nd, .int sw, .int so, .int lo, .ref h_one, .ref h_oth, .ref a_isb, .int cl, .int ea, .int on, .int lg, .ref a_log, .int wr, .ref a_seq, .int pe, .ref a_mho, .ref a_mih, .ref a_far])), (h_one, .inl (cI, 24, .inl one)), (h_oth, .inl (cI, 24, .inl oth))] s.heap.size = A at hD ⊢
  have hA : ∀ q : Nat, s.heap.size ≤ q → A q := fun q h => by rw [← hAe]; exact Or.inr h
  have hS : va_S A s.heap s.heap [] := va_S.rf
  have hl := lv_entry ([.ref h_m]) (n := 3) (Nat.le_of_ble_eq_true rfl)
  rw [lg_entry_eq]
  generalize (lg_sl ([.ref h_m]) ++ List.replicate (3 - (lg_sl ([.ref h_m])).length) Slot.unset).toArray = ls at hl ⊢
  have hl : lv_has ls 3 [(0, .ref h_m)] := hl
  obtain ⟨QQ, hQQ⟩ : ∃ Z, Z = MQ below (QM D (some (.int r)) A [(h_m, .inr (5, [.int r_0, .int nd, .int sw, .int so, .int lo, .ref h_one, .ref h_oth, .ref a_isb, .int cl, .int ea, .int on, .int lg, .ref a_log, .int wr, .ref a_seq, .int pe, .ref a_mho, .ref a_mih, .ref a_far])), (h_one, .inl (cI, 24, .inl one)), (h_oth, .inl (cI, 24, .inl oth))]) ([.ref h_m] : List Value).toArray s 0 0 A := ⟨_, rfl⟩
  rw [← hQQ]
  obtain ⟨H, locs, hHe, hLe⟩ : ∃ (H : Heap) (locs : List Loc), H = s.heap ∧ locs = [] := ⟨_, _, rfl, rfl⟩
  have hP : va_P D vwCl [(h_m, .inr (5, [.int th, .int nd, .int sw, .int so, .int lo, .ref h_one, .ref h_oth, .ref a_isb, .int cl, .int ea, .int on, .int lg, .ref a_log, .int wr, .ref a_seq, .int pe, .ref a_mho, .ref a_mih, .ref a_far])), (h_one, .inl (cI, 24, .inl one)), (h_oth, .inl (cI, 24, .inl oth))] H := by rw [hHe]; exact hP
  have hS : va_S A s.heap H locs := by rw [hHe, hLe]; exact hS
  have hW0 : ∀ QQ : State → Prop, W p l e (headSpec wsX5_earthed rmX5_earthed).room s m (([.ref h_m] : List Value).toArray) below meth c H locs 0 0 QQ (F0 m 0 ls []) → W p l e (headSpec wsX5_earthed rmX5_earthed).room s m (([.ref h_m] : List Value).toArray) below meth c s.heap [] 0 0 QQ (F0 m 0 ls []) := by rw [hHe, hLe]; exact fun _ h => h
  refine hW0 _ ?_
  clear hW0
  unfold fX5_earthed at h
  refine lv_aload_n hx hb dX5_earthed_0 rfl (lv_at hl 0 rfl) ?_
  refine lv_iconst (v := 0) hx hb dX5_earthed_1 (by decide) ?_
  refine va_put (D := D) (ci := 5) (v := .int 0) (ty := .int) (C := RX5) (T := TX5) (N := 19) hx hb hts inX5_earthed_X5 tyX5 tyX5_ok nmX5 hown hK hP hD hS 0 rfl rfl 0 (by decide) (hts _ lkX5_earthed_0) (fun _ h9 => h9) rfl (by decide +kernel) rfl rfl (Nat.le_of_ble_eq_true rfl) dX5_earthed_2 (fun H locs hP hD hS => ?_)
  have hP : va_P D vwCl [(h_m, .inr (5, [.int 0, .int nd, .int sw, .int so, .int lo, .ref h_one, .ref h_oth, .ref a_isb, .int cl, .int ea, .int on, .int lg, .ref a_log, .int wr, .ref a_seq, .int pe, .ref a_mho, .ref a_mih, .ref a_far])), (h_one, .inl (cI, 24, .inl one)), (h_oth, .inl (cI, 24, .inl oth))] H := hP
  have hD : va_D A [(h_m, .inr (5, [.int 0, .int nd, .int sw, .int so, .int lo, .ref h_one, .ref h_oth, .ref a_isb, .int cl, .int ea, .int on, .int lg, .ref a_log, .int wr, .ref a_seq, .int pe, .ref a_mho, .ref a_mih, .ref a_far])), (h_one, .inl (cI, 24, .inl one)), (h_oth, .inl (cI, 24, .inl oth))] := hD
  refine lv_iconst (v := 0) hx hb dX5_earthed_5 (by decide) ?_
  refine lv_istore_n (lv' := [(1, .int 0), (0, .ref h_m)]) hx hb dX5_earthed_6 rfl hl (by decide) rfl (fun ls hl => ?_)
  refine lv_iconst (v := 0) hx hb dX5_earthed_7 (by decide) ?_
  refine lv_istore_n (lv' := [(2, .int 0), (1, .int 0), (0, .ref h_m)]) hx hb dX5_earthed_8 rfl hl (by decide) rfl (fun ls hl => ?_)
  refine it2_e (fun (x1 : Int32) (x2 : Int32) => ∀ (H : Heap) (locs : List Loc) (ls : Array Slot), va_P D vwCl [(h_m, .inr (5, [.int 0, .int nd, .int sw, .int so, .int lo, .ref h_one, .ref h_oth, .ref a_isb, .int cl, .int ea, .int on, .int lg, .ref a_log, .int wr, .ref a_seq, .int pe, .ref a_mho, .ref a_mih, .ref a_far])), (h_one, .inl (cI, 24, .inl one)), (h_oth, .inl (cI, 24, .inl oth))] H → va_D A [(h_m, .inr (5, [.int 0, .int nd, .int sw, .int so, .int lo, .ref h_one, .ref h_oth, .ref a_isb, .int cl, .int ea, .int on, .int lg, .ref a_log, .int wr, .ref a_seq, .int pe, .ref a_mho, .ref a_mih, .ref a_far])), (h_one, .inl (cI, 24, .inl one)), (h_oth, .inl (cI, 24, .inl oth))] → va_S A s.heap H locs → lv_has ls 3 [(2, .int x1), (1, .int x2), (0, .ref h_m)] → W p l e (headSpec wsX5_earthed rmX5_earthed).room s m (([.ref h_m] : List Value).toArray) below meth c H locs 0 0 QQ (F0 m 9 ls [])) (fun g9_3 hg9_4 x1 x2 h H locs ls hP hD hS hl => ?_) N 0 0 h H locs ls hP hD hS (lv_sub hl [0, 1, 2] rfl)
  refine lv_iload_n hx hb dX5_earthed_9 rfl (lv_at hl 0 rfl) ?_
  refine lv_aload_n hx hb dX5_earthed_10 rfl (lv_at hl 2 rfl) ?_
  refine va_get (D := D) (ci := 5) (v := .int nd) (C := RX5) (T := TX5) (N := 19) hx hb hts inX5_earthed_X5 hown hK hP 0 rfl rfl 1 (by decide) (hts _ lkX5_earthed_1) (fun _ h9 => h9) rfl dX5_earthed_11 ?_
  refine lv_icmp_ge (tgt := 49) hx hb dX5_earthed_14 (by decide) (fun c5 => ?_) (fun c5 => ?_)
  · have h := it_t h c5
    refine lv_iload_n hx hb dX5_earthed_49 rfl (lv_at hl 1 rfl) ?_
    cases h
    rw [hQQ]
    exact W.iret hx hb hr (fun t ht hW => ⟨rfl, by rw [ht]; exact hP, hD, hS.F ht⟩) hS.2.2 dX5_earthed_50
  · have h := it_f h c5
    refine lv_iload_n hx hb dX5_earthed_17 rfl (lv_at hl 1 rfl) ?_
    refine lv_aload_n hx hb dX5_earthed_18 rfl (lv_at hl 2 rfl) ?_
    refine lv_iload_n hx hb dX5_earthed_19 rfl (lv_at hl 0 rfl) ?_
    refine lv_aload_n hx hb dX5_earthed_20 rfl (lv_at hl 2 rfl) ?_
    refine va_get (D := D) (ci := 5) (v := .int cl) (C := RX5) (T := TX5) (N := 19) hx hb hts inX5_earthed_X5 hown hK hP 0 rfl rfl 8 (by decide) (hts _ lkX5_earthed_2) (fun _ h9 => h9) rfl dX5_earthed_21 ?_
    refine lv_aload_n hx hb dX5_earthed_24 rfl (lv_at hl 2 rfl) ?_
    refine va_get (D := D) (ci := 5) (v := .int ea) (C := RX5) (T := TX5) (N := 19) hx hb hts inX5_earthed_X5 hown hK hP 0 rfl rfl 9 (by decide) (hts _ lkX5_earthed_3) (fun _ h9 => h9) rfl dX5_earthed_25 ?_
    obtain ⟨v6, hq7, h⟩ := bd1_e h
    refine zz_cV (As := [.int x1, .int cl, .int ea]) ⟨hx, hb, hml, hown, hts⟩ (kX5_isEarthed l D cI cZ cL h_m a_isb a_log a_seq a_mho a_mih a_far h_one h_oth 0 nd sw so lo cl ea on lg wr pe one oth x1 cl ea N hq7) (cwV 3 hts gX5_earthed_X5_isEarthed rfl rfl rfl (by decide +kernel) ⟨Nat.le_of_ble_eq_true rfl, Nat.le_of_ble_eq_true rfl⟩) (hP.sub (ws' := [(h_m, .inr (5, [.int 0, .int nd, .int sw, .int so, .int lo, .ref h_one, .ref h_oth, .ref a_isb, .int cl, .int ea, .int on, .int lg, .ref a_log, .int wr, .ref a_seq, .int pe, .ref a_mho, .ref a_mih, .ref a_far])), (h_one, .inl (cI, 24, .inl one)), (h_oth, .inl (cI, 24, .inl oth))]) [0, 1, 2] rfl) hKK (va_recv hK hP (ci := 5) (q0 := 0) rfl rfl) rfl hl.1 rfl (Nat.le_of_ble_eq_true rfl) dX5_earthed_28 ⟨Nat.le_of_ble_eq_true rfl, Nat.le_of_ble_eq_true rfl⟩ ?_
    refine lv_if_eq (tgt := 40) hx hb dX5_earthed_31 (by decide) (fun c8 => ?_) (fun c8 => ?_)
    · have h := it_t h c8
      refine lv_iconst (v := 0) hx hb dX5_earthed_40 (by decide) ?_
      refine lv_ior hx hb dX5_earthed_41 ?_
      refine lv_istore_n (lv' := [(1, .int (x2 ||| 0)), (2, .int x1), (0, .ref h_m)]) hx hb dX5_earthed_42 rfl hl (by decide) rfl (fun ls hl => ?_)
      refine lv_iinc (v := x1 + 1) (lv' := [(2, .int (x1 + 1)), (1, .int (x2 ||| 0)), (0, .ref h_m)]) hx hb dX5_earthed_43 hl (k := 1) rfl rfl (by decide) rfl (fun ls hl => ?_)
      refine lv_goto (tgt := 9) hx hb dX5_earthed_46 (by decide) ?_
      exact hg9_4 (x1 + 1) (x2 ||| 0) h H locs ls hP hD hS (lv_sub hl [0, 1, 2] rfl)
    · have h := it_f h c8
      refine lv_iconst (v := 1) hx hb dX5_earthed_34 (by decide) ?_
      refine lv_iload_n hx hb dX5_earthed_35 rfl (lv_at hl 0 rfl) ?_
      refine lv_ishl hx hb dX5_earthed_36 ?_
      refine lv_goto (tgt := 41) hx hb dX5_earthed_37 (by decide) ?_
      refine lv_ior hx hb dX5_earthed_41 ?_
      refine lv_istore_n (lv' := [(1, .int (x2 ||| ((1 : Int32) <<< (x1 &&& 31)))), (2, .int x1), (0, .ref h_m)]) hx hb dX5_earthed_42 rfl hl (by decide) rfl (fun ls hl => ?_)
      refine lv_iinc (v := x1 + 1) (lv' := [(2, .int (x1 + 1)), (1, .int (x2 ||| ((1 : Int32) <<< (x1 &&& 31)))), (0, .ref h_m)]) hx hb dX5_earthed_43 hl (k := 1) rfl rfl (by decide) rfl (fun ls hl => ?_)
      refine lv_goto (tgt := 9) hx hb dX5_earthed_46 (by decide) ?_
      exact hg9_4 (x1 + 1) (x2 ||| ((1 : Int32) <<< (x1 &&& 31))) h H locs ls hP hD hS (lv_sub hl [0, 1, 2] rfl)

def fX5_part (N : Nat) (th : Int32) (nd : Int32) (sw : Int32) (so : Int32) (lo : Int32) (cl : Int32) (ea : Int32) (on : Int32) (lg : Int32) (wr : Int32) (pe : Int32) (one : Nat → Int32) (oth : Nat → Int32) (p0 : Int32) : Option ((Int32) × (Int32)) :=
  bd1 (fX5_isNode N th nd sw so lo cl ea on lg wr pe p0) (fun v1 => jn1 (fun (y3 : Int32) => (if y3 ≤ 0 then bd1 (fX5_partOf N y3 nd sw so lo cl ea on lg wr pe one oth p0 cl) (fun v7 => some (v7, y3)) else some (0, y3))) (fun g14_4 => (if v1 = 0 then g14_4 1 else g14_4 0)))
set_option maxRecDepth 100000 in
theorem inX5_part_X5 : ∀ w ∈ wsX50, w ∈ wsX5_part := by decide +kernel
set_option maxRecDepth 100000 in
theorem lkX5_part_0 : (.fieldLink RX5 35 "SwitchlogModel" "thrown" "I" : Cond) ∈ wsX5_part := by decide +kernel
set_option maxRecDepth 100000 in
theorem lkX5_part_1 : (.fieldLink RX5 76 "SwitchlogModel" "closed" "I" : Cond) ∈ wsX5_part := by decide +kernel
abbrev rmX5_part : Room := { frames := 2, cells := 0, slots := 0, locals := 47 }
set_option maxHeartbeats 4000000 in
set_option maxRecDepth 100000 in
theorem kX5_part (l : Launch) (D : va_G) (cI cZ cL : ClassId) (sz0 : Nat) (h_m a_isb a_log a_seq a_mho a_mih a_far h_one h_oth : Nat) (th : Int32) (nd : Int32) (sw : Int32) (so : Int32) (lo : Int32) (cl : Int32) (ea : Int32) (on : Int32) (lg : Int32) (wr : Int32) (pe : Int32) (one : Nat → Int32) (oth : Nat → Int32) (p0 : Int32) (N : Nat) {r : Int32} {r_0 : Int32} (h : fX5_part N th nd sw so lo cl ea on lg wr pe one oth p0 = some (r, r_0)) : Met l yX5_part wsX5_part rmX5_part (PM D cI cZ cL [.ref h_m, .int p0] [(h_m, .inr (5, [.int th, .int nd, .int sw, .int so, .int lo, .ref h_one, .ref h_oth, .ref a_isb, .int cl, .int ea, .int on, .int lg, .ref a_log, .int wr, .ref a_seq, .int pe, .ref a_mho, .ref a_mih, .ref a_far])), (h_one, .inl (cI, 24, .inl one)), (h_oth, .inl (cI, 24, .inl oth))] sz0) (QM D (some (.int r)) (va_A [(h_m, .inr (5, [.int th, .int nd, .int sw, .int so, .int lo, .ref h_one, .ref h_oth, .ref a_isb, .int cl, .int ea, .int on, .int lg, .ref a_log, .int wr, .ref a_seq, .int pe, .ref a_mho, .ref a_mih, .ref a_far])), (h_one, .inl (cI, 24, .inl one)), (h_oth, .inl (cI, 24, .inl oth))] sz0) [(h_m, .inr (5, [.int r_0, .int nd, .int sw, .int so, .int lo, .ref h_one, .ref h_oth, .ref a_isb, .int cl, .int ea, .int on, .int lg, .ref a_log, .int wr, .ref a_seq, .int pe, .ref a_mho, .ref a_mih, .ref a_far])), (h_one, .inl (cI, 24, .inl one)), (h_oth, .inl (cI, 24, .inl oth))]) 0 0 (va_A [(h_m, .inr (5, [.int th, .int nd, .int sw, .int so, .int lo, .ref h_one, .ref h_oth, .ref a_isb, .int cl, .int ea, .int on, .int lg, .ref a_log, .int wr, .ref a_seq, .int pe, .ref a_mho, .ref a_mih, .ref a_far])), (h_one, .inl (cI, 24, .inl one)), (h_oth, .inl (cI, 24, .inl oth))] sz0) := by
  refine Met.ofW (cc := cX5_part) (maxL := 2) (ret := (some .int)) (by decide) rfl ?_
  intro p e s m args below meth c s₁ B hml hv
  obtain ⟨rfl, hsz, hP, hKK, hD0⟩ := hv
  have hK := hKK.1
  have hx := B.exec
  have hb := B.bytes
  have hr := B.returns
  have hts := atoms_spec (ws := wsX5_part) B.pre
  have hown : s.vm.findClass RX5 = some m.cls := findClass_of_methodNamed B.named
  have hlocks := B.notSynchronized
  subst hsz
  have hD := hD0.self (sz := s.heap.size)
  generalize hAe : va_A [(h_m, .inr (5, [.int th, .int nd, .int sw, .int so, .int lo, .ref h_one, .ref h_oth, .ref a_isb, .int cl, .int ea, .int on, .int lg, .ref a_log, .int wr, .ref a_seq, .int pe, .ref a_mho, .ref a_mih, .ref a_far])), (h_one, .inl (cI, 24, .inl one)), (h_oth, .inl (cI, 24, .inl oth))] s.heap.size = A at hD ⊢
  have hA : ∀ q : Nat, s.heap.size ≤ q → A q := fun q h => by rw [← hAe]; exact Or.inr h
  have hS : va_S A s.heap s.heap [] := va_S.rf
  have hl := lv_entry ([.ref h_m, .int p0]) (n := 2) (Nat.le_of_ble_eq_true rfl)
  rw [lg_entry_eq]
  generalize (lg_sl ([.ref h_m, .int p0]) ++ List.replicate (2 - (lg_sl ([.ref h_m, .int p0])).length) Slot.unset).toArray = ls at hl ⊢
  have hl : lv_has ls 2 [(0, .ref h_m), (1, .int p0)] := hl
  obtain ⟨QQ, hQQ⟩ : ∃ Z, Z = MQ below (QM D (some (.int r)) A [(h_m, .inr (5, [.int r_0, .int nd, .int sw, .int so, .int lo, .ref h_one, .ref h_oth, .ref a_isb, .int cl, .int ea, .int on, .int lg, .ref a_log, .int wr, .ref a_seq, .int pe, .ref a_mho, .ref a_mih, .ref a_far])), (h_one, .inl (cI, 24, .inl one)), (h_oth, .inl (cI, 24, .inl oth))]) ([.ref h_m, .int p0] : List Value).toArray s 0 0 A := ⟨_, rfl⟩
  rw [← hQQ]
  obtain ⟨H, locs, hHe, hLe⟩ : ∃ (H : Heap) (locs : List Loc), H = s.heap ∧ locs = [] := ⟨_, _, rfl, rfl⟩
  have hP : va_P D vwCl [(h_m, .inr (5, [.int th, .int nd, .int sw, .int so, .int lo, .ref h_one, .ref h_oth, .ref a_isb, .int cl, .int ea, .int on, .int lg, .ref a_log, .int wr, .ref a_seq, .int pe, .ref a_mho, .ref a_mih, .ref a_far])), (h_one, .inl (cI, 24, .inl one)), (h_oth, .inl (cI, 24, .inl oth))] H := by rw [hHe]; exact hP
  have hS : va_S A s.heap H locs := by rw [hHe, hLe]; exact hS
  have hW0 : ∀ QQ : State → Prop, W p l e (headSpec wsX5_part rmX5_part).room s m (([.ref h_m, .int p0] : List Value).toArray) below meth c H locs 0 0 QQ (F0 m 0 ls []) → W p l e (headSpec wsX5_part rmX5_part).room s m (([.ref h_m, .int p0] : List Value).toArray) below meth c s.heap [] 0 0 QQ (F0 m 0 ls []) := by rw [hHe, hLe]; exact fun _ h => h
  refine hW0 _ ?_
  clear hW0
  unfold fX5_part at h
  refine lv_aload_n hx hb dX5_part_0 rfl (lv_at hl 0 rfl) ?_
  refine lv_aload_n hx hb dX5_part_1 rfl (lv_at hl 0 rfl) ?_
  refine lv_iload_n hx hb dX5_part_2 rfl (lv_at hl 1 rfl) ?_
  obtain ⟨v1, hq2, h⟩ := bd1_e h
  refine zz_cV (As := [.int p0]) ⟨hx, hb, hml, hown, hts⟩ (kX5_isNode l D cI cZ cL h_m h_one h_oth a_isb a_log a_seq a_mho a_mih a_far th nd sw so lo cl ea on lg wr pe p0 N hq2) (cwV 1 hts gX5_part_X5_isNode rfl rfl rfl (by decide +kernel) ⟨Nat.le_of_ble_eq_true rfl, Nat.le_of_ble_eq_true rfl⟩) (hP.sub (ws' := [(h_m, .inr (5, [.int th, .int nd, .int sw, .int so, .int lo, .ref h_one, .ref h_oth, .ref a_isb, .int cl, .int ea, .int on, .int lg, .ref a_log, .int wr, .ref a_seq, .int pe, .ref a_mho, .ref a_mih, .ref a_far]))]) [0] rfl) hKK (va_recv hK hP (ci := 5) (q0 := 0) rfl rfl) rfl hl.1 rfl (Nat.le_of_ble_eq_true rfl) dX5_part_3 ⟨Nat.le_of_ble_eq_true rfl, Nat.le_of_ble_eq_true rfl⟩ ?_
  refine jn1_e (fun (y3 : Int32) => ∀ (H : Heap) (locs : List Loc) (ls : Array Slot), va_P D vwCl [(h_m, .inr (5, [.int th, .int nd, .int sw, .int so, .int lo, .ref h_one, .ref h_oth, .ref a_isb, .int cl, .int ea, .int on, .int lg, .ref a_log, .int wr, .ref a_seq, .int pe, .ref a_mho, .ref a_mih, .ref a_far])), (h_one, .inl (cI, 24, .inl one)), (h_oth, .inl (cI, 24, .inl oth))] H → va_D A [(h_m, .inr (5, [.int th, .int nd, .int sw, .int so, .int lo, .ref h_one, .ref h_oth, .ref a_isb, .int cl, .int ea, .int on, .int lg, .ref a_log, .int wr, .ref a_seq, .int pe, .ref a_mho, .ref a_mih, .ref a_far])), (h_one, .inl (cI, 24, .inl one)), (h_oth, .inl (cI, 24, .inl oth))] → va_S A s.heap H locs → lv_has ls 2 [(0, .ref h_m), (1, .int p0)] → W p l e (headSpec wsX5_part rmX5_part).room s m (([.ref h_m, .int p0] : List Value).toArray) below meth c H locs 0 0 QQ (F0 m 14 ls [.int y3, .ref h_m])) h (fun y3 h H locs ls hP hD hS hl => ?_) (fun g14_4 hg14_5 h => ?_)
  · refine va_put (D := D) (ci := 5) (v := .int y3) (ty := .int) (C := RX5) (T := TX5) (N := 19) hx hb hts inX5_part_X5 tyX5 tyX5_ok nmX5 hown hK hP hD hS 0 rfl rfl 0 (by decide) (hts _ lkX5_part_0) (fun _ h9 => h9) rfl (by decide +kernel) rfl rfl (Nat.le_of_ble_eq_true rfl) dX5_part_14 (fun H locs hP hD hS => ?_)
    have hP : va_P D vwCl [(h_m, .inr (5, [.int y3, .int nd, .int sw, .int so, .int lo, .ref h_one, .ref h_oth, .ref a_isb, .int cl, .int ea, .int on, .int lg, .ref a_log, .int wr, .ref a_seq, .int pe, .ref a_mho, .ref a_mih, .ref a_far])), (h_one, .inl (cI, 24, .inl one)), (h_oth, .inl (cI, 24, .inl oth))] H := hP
    have hD : va_D A [(h_m, .inr (5, [.int y3, .int nd, .int sw, .int so, .int lo, .ref h_one, .ref h_oth, .ref a_isb, .int cl, .int ea, .int on, .int lg, .ref a_log, .int wr, .ref a_seq, .int pe, .ref a_mho, .ref a_mih, .ref a_far])), (h_one, .inl (cI, 24, .inl one)), (h_oth, .inl (cI, 24, .inl oth))] := hD
    refine lv_aload_n hx hb dX5_part_17 rfl (lv_at hl 0 rfl) ?_
    refine va_get (D := D) (ci := 5) (v := .int y3) (C := RX5) (T := TX5) (N := 19) hx hb hts inX5_part_X5 hown hK hP 0 rfl rfl 0 (by decide) (hts _ lkX5_part_0) (fun _ h9 => h9) rfl dX5_part_18 ?_
    refine lv_if_le (tgt := 28) hx hb dX5_part_21 (by decide) (fun c6 => ?_) (fun c6 => ?_)
    · have h := it_t h c6
      refine lv_aload_n hx hb dX5_part_28 rfl (lv_at hl 0 rfl) ?_
      refine lv_iload_n hx hb dX5_part_29 rfl (lv_at hl 1 rfl) ?_
      refine lv_aload_n hx hb dX5_part_30 rfl (lv_at hl 0 rfl) ?_
      refine va_get (D := D) (ci := 5) (v := .int cl) (C := RX5) (T := TX5) (N := 19) hx hb hts inX5_part_X5 hown hK hP 0 rfl rfl 8 (by decide) (hts _ lkX5_part_1) (fun _ h9 => h9) rfl dX5_part_31 ?_
      obtain ⟨v7, hq8, h⟩ := bd1_e h
      refine zz_cV (As := [.int p0, .int cl]) ⟨hx, hb, hml, hown, hts⟩ (kX5_partOf l D cI cZ cL h_m a_isb a_log a_seq a_mho a_mih a_far h_one h_oth y3 nd sw so lo cl ea on lg wr pe one oth p0 cl N hq8) (cwV 2 hts gX5_part_X5_partOf rfl rfl rfl (by decide +kernel) ⟨Nat.le_of_ble_eq_true rfl, Nat.le_of_ble_eq_true rfl⟩) (hP.sub (ws' := [(h_m, .inr (5, [.int y3, .int nd, .int sw, .int so, .int lo, .ref h_one, .ref h_oth, .ref a_isb, .int cl, .int ea, .int on, .int lg, .ref a_log, .int wr, .ref a_seq, .int pe, .ref a_mho, .ref a_mih, .ref a_far])), (h_one, .inl (cI, 24, .inl one)), (h_oth, .inl (cI, 24, .inl oth))]) [0, 1, 2] rfl) hKK (va_recv hK hP (ci := 5) (q0 := 0) rfl rfl) rfl hl.1 rfl (Nat.le_of_ble_eq_true rfl) dX5_part_34 ⟨Nat.le_of_ble_eq_true rfl, Nat.le_of_ble_eq_true rfl⟩ ?_
      cases h
      rw [hQQ]
      exact W.iret hx hb hr (fun t ht hW => ⟨rfl, by rw [ht]; exact hP, hD, hS.F ht⟩) hS.2.2 dX5_part_37
    · have h := it_f h c6
      refine lv_iconst (v := 0) hx hb dX5_part_24 (by decide) ?_
      refine lv_goto (tgt := 37) hx hb dX5_part_25 (by decide) ?_
      cases h
      rw [hQQ]
      exact W.iret hx hb hr (fun t ht hW => ⟨rfl, by rw [ht]; exact hP, hD, hS.F ht⟩) hS.2.2 dX5_part_37
  · refine lv_if_eq (tgt := 13) hx hb dX5_part_6 (by decide) (fun c9 => ?_) (fun c9 => ?_)
    · have h := it_t h c9
      refine lv_iconst (v := 1) hx hb dX5_part_13 (by decide) ?_
      exact hg14_5 1 h H locs ls hP hD hS (lv_sub hl [0, 1] rfl)
    · have h := it_f h c9
      refine lv_iconst (v := 0) hx hb dX5_part_9 (by decide) ?_
      refine lv_goto (tgt := 14) hx hb dX5_part_10 (by decide) ?_
      exact hg14_5 0 h H locs ls hP hD hS (lv_sub hl [0, 1] rfl)

def fX5_parts (N : Nat) (th : Int32) (nd : Int32) (sw : Int32) (so : Int32) (lo : Int32) (cl : Int32) (ea : Int32) (on : Int32) (lg : Int32) (wr : Int32) (pe : Int32) (one : Nat → Int32) (oth : Nat → Int32) : Option ((Int32) × (Int32)) :=
  it3 (fun g11_4 (x1 : Int32) (x2 : Int32) (x3 : Int32) => (if nd ≤ x1 then some (x3, 0) else bd1 (fX5_has N  x2 x1) (fun v7 => jn1 (fun (y9 : Int32) => bd1 (fX5_partOf N 0 nd sw so lo cl ea on lg wr pe one oth x1 cl) (fun v12 => g11_4 (x1 + 1) (x2 ||| v12) (x3 + y9))) (fun g33_10 => (if v7 = 0 then g33_10 1 else g33_10 0))))) N 0 0 0
set_option maxRecDepth 100000 in
theorem inX5_parts_X5 : ∀ w ∈ wsX50, w ∈ wsX5_parts := by decide +kernel
set_option maxRecDepth 100000 in
theorem lkX5_parts_0 : (.fieldLink RX5 35 "SwitchlogModel" "thrown" "I" : Cond) ∈ wsX5_parts := by decide +kernel
set_option maxRecDepth 100000 in
theorem lkX5_parts_1 : (.fieldLink RX5 39 "SwitchlogModel" "nodes" "I" : Cond) ∈ wsX5_parts := by decide +kernel
set_option maxRecDepth 100000 in
theorem lkX5_parts_2 : (.fieldLink RX5 76 "SwitchlogModel" "closed" "I" : Cond) ∈ wsX5_parts := by decide +kernel
abbrev rmX5_parts : Room := { frames := 2, cells := 0, slots := 0, locals := 47 }
set_option maxHeartbeats 4000000 in
set_option maxRecDepth 100000 in
theorem kX5_parts (l : Launch) (D : va_G) (cI cZ cL : ClassId) (sz0 : Nat) (h_m a_isb a_log a_seq a_mho a_mih a_far h_one h_oth : Nat) (th : Int32) (nd : Int32) (sw : Int32) (so : Int32) (lo : Int32) (cl : Int32) (ea : Int32) (on : Int32) (lg : Int32) (wr : Int32) (pe : Int32) (one : Nat → Int32) (oth : Nat → Int32)  (N : Nat) {r : Int32} {r_0 : Int32} (h : fX5_parts N th nd sw so lo cl ea on lg wr pe one oth  = some (r, r_0)) : Met l yX5_parts wsX5_parts rmX5_parts (PM D cI cZ cL [.ref h_m] [(h_m, .inr (5, [.int th, .int nd, .int sw, .int so, .int lo, .ref h_one, .ref h_oth, .ref a_isb, .int cl, .int ea, .int on, .int lg, .ref a_log, .int wr, .ref a_seq, .int pe, .ref a_mho, .ref a_mih, .ref a_far])), (h_one, .inl (cI, 24, .inl one)), (h_oth, .inl (cI, 24, .inl oth))] sz0) (QM D (some (.int r)) (va_A [(h_m, .inr (5, [.int th, .int nd, .int sw, .int so, .int lo, .ref h_one, .ref h_oth, .ref a_isb, .int cl, .int ea, .int on, .int lg, .ref a_log, .int wr, .ref a_seq, .int pe, .ref a_mho, .ref a_mih, .ref a_far])), (h_one, .inl (cI, 24, .inl one)), (h_oth, .inl (cI, 24, .inl oth))] sz0) [(h_m, .inr (5, [.int r_0, .int nd, .int sw, .int so, .int lo, .ref h_one, .ref h_oth, .ref a_isb, .int cl, .int ea, .int on, .int lg, .ref a_log, .int wr, .ref a_seq, .int pe, .ref a_mho, .ref a_mih, .ref a_far])), (h_one, .inl (cI, 24, .inl one)), (h_oth, .inl (cI, 24, .inl oth))]) 0 0 (va_A [(h_m, .inr (5, [.int th, .int nd, .int sw, .int so, .int lo, .ref h_one, .ref h_oth, .ref a_isb, .int cl, .int ea, .int on, .int lg, .ref a_log, .int wr, .ref a_seq, .int pe, .ref a_mho, .ref a_mih, .ref a_far])), (h_one, .inl (cI, 24, .inl one)), (h_oth, .inl (cI, 24, .inl oth))] sz0) := by
  refine Met.ofW (cc := cX5_parts) (maxL := 4) (ret := (some .int)) (by decide) rfl ?_
  intro p e s m args below meth c s₁ B hml hv
  obtain ⟨rfl, hsz, hP, hKK, hD0⟩ := hv
  have hK := hKK.1
  have hx := B.exec
  have hb := B.bytes
  have hr := B.returns
  have hts := atoms_spec (ws := wsX5_parts) B.pre
  have hown : s.vm.findClass RX5 = some m.cls := findClass_of_methodNamed B.named
  have hlocks := B.notSynchronized
  subst hsz
  have hD := hD0.self (sz := s.heap.size)
  generalize hAe : va_A [(h_m, .inr (5, [.int th, .int nd, .int sw, .int so, .int lo, .ref h_one, .ref h_oth, .ref a_isb, .int cl, .int ea, .int on, .int lg, .ref a_log, .int wr, .ref a_seq, .int pe, .ref a_mho, .ref a_mih, .ref a_far])), (h_one, .inl (cI, 24, .inl one)), (h_oth, .inl (cI, 24, .inl oth))] s.heap.size = A at hD ⊢
  have hA : ∀ q : Nat, s.heap.size ≤ q → A q := fun q h => by rw [← hAe]; exact Or.inr h
  have hS : va_S A s.heap s.heap [] := va_S.rf
  have hl := lv_entry ([.ref h_m]) (n := 4) (Nat.le_of_ble_eq_true rfl)
  rw [lg_entry_eq]
  generalize (lg_sl ([.ref h_m]) ++ List.replicate (4 - (lg_sl ([.ref h_m])).length) Slot.unset).toArray = ls at hl ⊢
  have hl : lv_has ls 4 [(0, .ref h_m)] := hl
  obtain ⟨QQ, hQQ⟩ : ∃ Z, Z = MQ below (QM D (some (.int r)) A [(h_m, .inr (5, [.int r_0, .int nd, .int sw, .int so, .int lo, .ref h_one, .ref h_oth, .ref a_isb, .int cl, .int ea, .int on, .int lg, .ref a_log, .int wr, .ref a_seq, .int pe, .ref a_mho, .ref a_mih, .ref a_far])), (h_one, .inl (cI, 24, .inl one)), (h_oth, .inl (cI, 24, .inl oth))]) ([.ref h_m] : List Value).toArray s 0 0 A := ⟨_, rfl⟩
  rw [← hQQ]
  obtain ⟨H, locs, hHe, hLe⟩ : ∃ (H : Heap) (locs : List Loc), H = s.heap ∧ locs = [] := ⟨_, _, rfl, rfl⟩
  have hP : va_P D vwCl [(h_m, .inr (5, [.int th, .int nd, .int sw, .int so, .int lo, .ref h_one, .ref h_oth, .ref a_isb, .int cl, .int ea, .int on, .int lg, .ref a_log, .int wr, .ref a_seq, .int pe, .ref a_mho, .ref a_mih, .ref a_far])), (h_one, .inl (cI, 24, .inl one)), (h_oth, .inl (cI, 24, .inl oth))] H := by rw [hHe]; exact hP
  have hS : va_S A s.heap H locs := by rw [hHe, hLe]; exact hS
  have hW0 : ∀ QQ : State → Prop, W p l e (headSpec wsX5_parts rmX5_parts).room s m (([.ref h_m] : List Value).toArray) below meth c H locs 0 0 QQ (F0 m 0 ls []) → W p l e (headSpec wsX5_parts rmX5_parts).room s m (([.ref h_m] : List Value).toArray) below meth c s.heap [] 0 0 QQ (F0 m 0 ls []) := by rw [hHe, hLe]; exact fun _ h => h
  refine hW0 _ ?_
  clear hW0
  unfold fX5_parts at h
  refine lv_aload_n hx hb dX5_parts_0 rfl (lv_at hl 0 rfl) ?_
  refine lv_iconst (v := 0) hx hb dX5_parts_1 (by decide) ?_
  refine va_put (D := D) (ci := 5) (v := .int 0) (ty := .int) (C := RX5) (T := TX5) (N := 19) hx hb hts inX5_parts_X5 tyX5 tyX5_ok nmX5 hown hK hP hD hS 0 rfl rfl 0 (by decide) (hts _ lkX5_parts_0) (fun _ h9 => h9) rfl (by decide +kernel) rfl rfl (Nat.le_of_ble_eq_true rfl) dX5_parts_2 (fun H locs hP hD hS => ?_)
  have hP : va_P D vwCl [(h_m, .inr (5, [.int 0, .int nd, .int sw, .int so, .int lo, .ref h_one, .ref h_oth, .ref a_isb, .int cl, .int ea, .int on, .int lg, .ref a_log, .int wr, .ref a_seq, .int pe, .ref a_mho, .ref a_mih, .ref a_far])), (h_one, .inl (cI, 24, .inl one)), (h_oth, .inl (cI, 24, .inl oth))] H := hP
  have hD : va_D A [(h_m, .inr (5, [.int 0, .int nd, .int sw, .int so, .int lo, .ref h_one, .ref h_oth, .ref a_isb, .int cl, .int ea, .int on, .int lg, .ref a_log, .int wr, .ref a_seq, .int pe, .ref a_mho, .ref a_mih, .ref a_far])), (h_one, .inl (cI, 24, .inl one)), (h_oth, .inl (cI, 24, .inl oth))] := hD
  refine lv_iconst (v := 0) hx hb dX5_parts_5 (by decide) ?_
  refine lv_istore_n (lv' := [(1, .int 0), (0, .ref h_m)]) hx hb dX5_parts_6 rfl hl (by decide) rfl (fun ls hl => ?_)
  refine lv_iconst (v := 0) hx hb dX5_parts_7 (by decide) ?_
  refine lv_istore_n (lv' := [(2, .int 0), (1, .int 0), (0, .ref h_m)]) hx hb dX5_parts_8 rfl hl (by decide) rfl (fun ls hl => ?_)
  refine lv_iconst (v := 0) hx hb dX5_parts_9 (by decide) ?_
  refine lv_istore_n (lv' := [(3, .int 0), (2, .int 0), (1, .int 0), (0, .ref h_m)]) hx hb dX5_parts_10 rfl hl (by decide) rfl (fun ls hl => ?_)
  refine it3_e (fun (x1 : Int32) (x2 : Int32) (x3 : Int32) => ∀ (H : Heap) (locs : List Loc) (ls : Array Slot), va_P D vwCl [(h_m, .inr (5, [.int 0, .int nd, .int sw, .int so, .int lo, .ref h_one, .ref h_oth, .ref a_isb, .int cl, .int ea, .int on, .int lg, .ref a_log, .int wr, .ref a_seq, .int pe, .ref a_mho, .ref a_mih, .ref a_far])), (h_one, .inl (cI, 24, .inl one)), (h_oth, .inl (cI, 24, .inl oth))] H → va_D A [(h_m, .inr (5, [.int 0, .int nd, .int sw, .int so, .int lo, .ref h_one, .ref h_oth, .ref a_isb, .int cl, .int ea, .int on, .int lg, .ref a_log, .int wr, .ref a_seq, .int pe, .ref a_mho, .ref a_mih, .ref a_far])), (h_one, .inl (cI, 24, .inl one)), (h_oth, .inl (cI, 24, .inl oth))] → va_S A s.heap H locs → lv_has ls 4 [(3, .int x1), (2, .int x2), (1, .int x3), (0, .ref h_m)] → W p l e (headSpec wsX5_parts rmX5_parts).room s m (([.ref h_m] : List Value).toArray) below meth c H locs 0 0 QQ (F0 m 11 ls [])) (fun g11_4 hg11_5 x1 x2 x3 h H locs ls hP hD hS hl => ?_) N 0 0 0 h H locs ls hP hD hS (lv_sub hl [0, 1, 2, 3] rfl)
  refine lv_iload_n hx hb dX5_parts_11 rfl (lv_at hl 0 rfl) ?_
  refine lv_aload_n hx hb dX5_parts_12 rfl (lv_at hl 3 rfl) ?_
  refine va_get (D := D) (ci := 5) (v := .int nd) (C := RX5) (T := TX5) (N := 19) hx hb hts inX5_parts_X5 hown hK hP 0 rfl rfl 1 (by decide) (hts _ lkX5_parts_1) (fun _ h9 => h9) rfl dX5_parts_13 ?_
  refine lv_icmp_ge (tgt := 53) hx hb dX5_parts_16 (by decide) (fun c6 => ?_) (fun c6 => ?_)
  · have h := it_t h c6
    refine lv_iload_n hx hb dX5_parts_53 rfl (lv_at hl 2 rfl) ?_
    cases h
    rw [hQQ]
    exact W.iret hx hb hr (fun t ht hW => ⟨rfl, by rw [ht]; exact hP, hD, hS.F ht⟩) hS.2.2 dX5_parts_54
  · have h := it_f h c6
    refine lv_iload_n hx hb dX5_parts_19 rfl (lv_at hl 2 rfl) ?_
    refine lv_iload_n hx hb dX5_parts_20 rfl (lv_at hl 1 rfl) ?_
    refine lv_iload_n hx hb dX5_parts_21 rfl (lv_at hl 0 rfl) ?_
    obtain ⟨v7, hq8, h⟩ := bd1_e h
    refine zz_cS (As := [.int x2, .int x1]) ⟨hx, hb, hml, hown, hts⟩ (kX5_has l D cI cZ cL x2 x1 N hq8) (va_cwS 2 hts gX5_parts_X5_has rfl rfl rfl (by decide +kernel) ⟨Nat.le_of_ble_eq_true rfl, Nat.le_of_ble_eq_true rfl⟩) (hP.sub (ws' := []) [] rfl) hKK rfl hl.1 rfl (Nat.le_of_ble_eq_true rfl) dX5_parts_22 ⟨Nat.le_of_ble_eq_true rfl, Nat.le_of_ble_eq_true rfl⟩ ?_
    refine jn1_e (fun (y9 : Int32) => ∀ (H : Heap) (locs : List Loc) (ls : Array Slot), va_P D vwCl [(h_m, .inr (5, [.int 0, .int nd, .int sw, .int so, .int lo, .ref h_one, .ref h_oth, .ref a_isb, .int cl, .int ea, .int on, .int lg, .ref a_log, .int wr, .ref a_seq, .int pe, .ref a_mho, .ref a_mih, .ref a_far])), (h_one, .inl (cI, 24, .inl one)), (h_oth, .inl (cI, 24, .inl oth))] H → va_D A [(h_m, .inr (5, [.int 0, .int nd, .int sw, .int so, .int lo, .ref h_one, .ref h_oth, .ref a_isb, .int cl, .int ea, .int on, .int lg, .ref a_log, .int wr, .ref a_seq, .int pe, .ref a_mho, .ref a_mih, .ref a_far])), (h_one, .inl (cI, 24, .inl one)), (h_oth, .inl (cI, 24, .inl oth))] → va_S A s.heap H locs → lv_has ls 4 [(3, .int x1), (2, .int x2), (1, .int x3), (0, .ref h_m)] → W p l e (headSpec wsX5_parts rmX5_parts).room s m (([.ref h_m] : List Value).toArray) below meth c H locs 0 0 QQ (F0 m 33 ls [.int y9, .int x3])) h (fun y9 h H locs ls hP hD hS hl => ?_) (fun g33_10 hg33_11 h => ?_)
    · refine lv_iadd hx hb dX5_parts_33 ?_
      refine lv_istore_n (lv' := [(1, .int (x3 + y9)), (3, .int x1), (2, .int x2), (0, .ref h_m)]) hx hb dX5_parts_34 rfl hl (by decide) rfl (fun ls hl => ?_)
      refine lv_iload_n hx hb dX5_parts_35 rfl (lv_at hl 2 rfl) ?_
      refine lv_aload_n hx hb dX5_parts_36 rfl (lv_at hl 3 rfl) ?_
      refine lv_iload_n hx hb dX5_parts_37 rfl (lv_at hl 1 rfl) ?_
      refine lv_aload_n hx hb dX5_parts_38 rfl (lv_at hl 3 rfl) ?_
      refine va_get (D := D) (ci := 5) (v := .int cl) (C := RX5) (T := TX5) (N := 19) hx hb hts inX5_parts_X5 hown hK hP 0 rfl rfl 8 (by decide) (hts _ lkX5_parts_2) (fun _ h9 => h9) rfl dX5_parts_39 ?_
      obtain ⟨v12, hq13, h⟩ := bd1_e h
      refine zz_cV (As := [.int x1, .int cl]) ⟨hx, hb, hml, hown, hts⟩ (kX5_partOf l D cI cZ cL h_m a_isb a_log a_seq a_mho a_mih a_far h_one h_oth 0 nd sw so lo cl ea on lg wr pe one oth x1 cl N hq13) (cwV 2 hts gX5_parts_X5_partOf rfl rfl rfl (by decide +kernel) ⟨Nat.le_of_ble_eq_true rfl, Nat.le_of_ble_eq_true rfl⟩) (hP.sub (ws' := [(h_m, .inr (5, [.int 0, .int nd, .int sw, .int so, .int lo, .ref h_one, .ref h_oth, .ref a_isb, .int cl, .int ea, .int on, .int lg, .ref a_log, .int wr, .ref a_seq, .int pe, .ref a_mho, .ref a_mih, .ref a_far])), (h_one, .inl (cI, 24, .inl one)), (h_oth, .inl (cI, 24, .inl oth))]) [0, 1, 2] rfl) hKK (va_recv hK hP (ci := 5) (q0 := 0) rfl rfl) rfl hl.1 rfl (Nat.le_of_ble_eq_true rfl) dX5_parts_42 ⟨Nat.le_of_ble_eq_true rfl, Nat.le_of_ble_eq_true rfl⟩ ?_
      refine lv_ior hx hb dX5_parts_45 ?_
      refine lv_istore_n (lv' := [(2, .int (x2 ||| v12)), (1, .int (x3 + y9)), (3, .int x1), (0, .ref h_m)]) hx hb dX5_parts_46 rfl hl (by decide) rfl (fun ls hl => ?_)
      refine lv_iinc (v := x1 + 1) (lv' := [(3, .int (x1 + 1)), (2, .int (x2 ||| v12)), (1, .int (x3 + y9)), (0, .ref h_m)]) hx hb dX5_parts_47 hl (k := 2) rfl rfl (by decide) rfl (fun ls hl => ?_)
      refine lv_goto (tgt := 11) hx hb dX5_parts_50 (by decide) ?_
      exact hg11_5 (x1 + 1) (x2 ||| v12) (x3 + y9) h H locs ls hP hD hS (lv_sub hl [0, 1, 2, 3] rfl)
    · refine lv_if_eq (tgt := 32) hx hb dX5_parts_25 (by decide) (fun c14 => ?_) (fun c14 => ?_)
      · have h := it_t h c14
        refine lv_iconst (v := 1) hx hb dX5_parts_32 (by decide) ?_
        exact hg33_11 1 h H locs ls hP hD hS (lv_sub hl [0, 1, 2, 3] rfl)
      · have h := it_f h c14
        refine lv_iconst (v := 0) hx hb dX5_parts_28 (by decide) ?_
        refine lv_goto (tgt := 33) hx hb dX5_parts_29 (by decide) ?_
        exact hg33_11 0 h H locs ls hP hD hS (lv_sub hl [0, 1, 2, 3] rfl)

def fX5_laysFar (N : Nat) (th : Int32) (nd : Int32) (sw : Int32) (so : Int32) (lo : Int32) (cl : Int32) (ea : Int32) (on : Int32) (lg : Int32) (wr : Int32) (pe : Int32) (one : Nat → Int32) (oth : Nat → Int32) (far : Nat → Int32) (p0 : Int32) : Option ((Nat → Int32)) :=
  it2 (fun g2_3 (x1 : Int32) (w2 : Nat → Int32) => (if nd ≤ x1 then it2 (fun g36_8 (x6 : Int32) (w7 : Nat → Int32) => (if nd ≤ x6 then some w7 else it2 (fun g46_13 (x11 : Int32) (w12 : Nat → Int32) => (if sw ≤ x11 then g36_8 (x6 + 1) w12 else bd1 (fX5_has N  cl x11) (fun v16 => jn1 (fun (y18 : Int32) => gin x11 24 (gin (one x11.toNatClampNeg) 16 (gin x11 24 (gin (oth x11.toNatClampNeg) 16 (gin x11 24 (gin x11 24 (gin (oth x11.toNatClampNeg) 16 (jn1 (fun (y28 : Int32) => gin (oth x11.toNatClampNeg) 16 (gin x11 24 (gin x11 24 (gin (one x11.toNatClampNeg) 16 ((if ((upd w12 (oth x11.toNatClampNeg).toNatClampNeg y28) (one x11.toNatClampNeg).toNatClampNeg) ≤ ((w12 (oth x11.toNatClampNeg).toNatClampNeg) + y18) then gin x11 24 (gin (one x11.toNatClampNeg) 16 (gin (one x11.toNatClampNeg) 16 (g46_13 (x11 + 1) (upd (upd w12 (oth x11.toNatClampNeg).toNatClampNeg y28) (one x11.toNatClampNeg).toNatClampNeg ((upd w12 (oth x11.toNatClampNeg).toNatClampNeg y28) (one x11.toNatClampNeg).toNatClampNeg))))) else gin (one x11.toNatClampNeg) 16 (g46_13 (x11 + 1) (upd (upd w12 (oth x11.toNatClampNeg).toNatClampNeg y28) (one x11.toNatClampNeg).toNatClampNeg ((w12 (oth x11.toNatClampNeg).toNatClampNeg) + y18))))))))) (fun g146_29 => (if (w12 (oth x11.toNatClampNeg).toNatClampNeg) ≤ ((w12 (one x11.toNatClampNeg).toNatClampNeg) + y18) then gin x11 24 (gin (oth x11.toNatClampNeg) 16 (g146_29 (w12 (oth x11.toNatClampNeg).toNatClampNeg))) else g146_29 ((w12 (one x11.toNatClampNeg).toNatClampNeg) + y18))))))))))) (fun g70_19 => (if v16 = 0 then g70_19 1 else g70_19 0))))) N 0 w7)) N 0 w2 else (if x1 = p0 then gin x1 16 (g2_3 (x1 + 1) (upd w2 x1.toNatClampNeg 0)) else gin x1 16 (g2_3 (x1 + 1) (upd w2 x1.toNatClampNeg 1000))))) N 0 far
set_option maxRecDepth 100000 in
theorem inX5_laysFar_X5 : ∀ w ∈ wsX50, w ∈ wsX5_laysFar := by decide +kernel
set_option maxRecDepth 100000 in
theorem lkX5_laysFar_0 : (.fieldLink RX5 39 "SwitchlogModel" "nodes" "I" : Cond) ∈ wsX5_laysFar := by decide +kernel
set_option maxRecDepth 100000 in
theorem lkX5_laysFar_1 : (.fieldLink RX5 46 "SwitchlogModel" "switches" "I" : Cond) ∈ wsX5_laysFar := by decide +kernel
set_option maxRecDepth 100000 in
theorem lkX5_laysFar_2 : (.fieldLink RX5 76 "SwitchlogModel" "closed" "I" : Cond) ∈ wsX5_laysFar := by decide +kernel
set_option maxRecDepth 100000 in
theorem lkX5_laysFar_3 : (.fieldLink RX5 32 "SwitchlogModel" "far" "[I" : Cond) ∈ wsX5_laysFar := by decide +kernel
set_option maxRecDepth 100000 in
theorem lkX5_laysFar_4 : (.fieldLink RX5 7 "SwitchlogModel" "one" "[I" : Cond) ∈ wsX5_laysFar := by decide +kernel
set_option maxRecDepth 100000 in
theorem lkX5_laysFar_5 : (.fieldLink RX5 13 "SwitchlogModel" "other" "[I" : Cond) ∈ wsX5_laysFar := by decide +kernel
abbrev rmX5_laysFar : Room := { frames := 1, cells := 0, slots := 0, locals := 21 }
set_option maxHeartbeats 4000000 in
set_option maxRecDepth 100000 in
theorem kX5_laysFar (l : Launch) (D : va_G) (cI cZ cL : ClassId) (sz0 : Nat) (h_m a_isb a_log a_seq a_mho a_mih h_one h_oth h_far : Nat) (th : Int32) (nd : Int32) (sw : Int32) (so : Int32) (lo : Int32) (cl : Int32) (ea : Int32) (on : Int32) (lg : Int32) (wr : Int32) (pe : Int32) (one : Nat → Int32) (oth : Nat → Int32) (far : Nat → Int32) (p0 : Int32) (N : Nat) {r_0 : Nat → Int32} (h : fX5_laysFar N th nd sw so lo cl ea on lg wr pe one oth far p0 = some r_0) : Met l yX5_laysFar wsX5_laysFar rmX5_laysFar (PM D cI cZ cL [.ref h_m, .int p0] [(h_m, .inr (5, [.int th, .int nd, .int sw, .int so, .int lo, .ref h_one, .ref h_oth, .ref a_isb, .int cl, .int ea, .int on, .int lg, .ref a_log, .int wr, .ref a_seq, .int pe, .ref a_mho, .ref a_mih, .ref h_far])), (h_one, .inl (cI, 24, .inl one)), (h_oth, .inl (cI, 24, .inl oth)), (h_far, .inl (cI, 16, .inl far))] sz0) (QM D none (va_A [(h_m, .inr (5, [.int th, .int nd, .int sw, .int so, .int lo, .ref h_one, .ref h_oth, .ref a_isb, .int cl, .int ea, .int on, .int lg, .ref a_log, .int wr, .ref a_seq, .int pe, .ref a_mho, .ref a_mih, .ref h_far])), (h_one, .inl (cI, 24, .inl one)), (h_oth, .inl (cI, 24, .inl oth)), (h_far, .inl (cI, 16, .inl far))] sz0) [(h_m, .inr (5, [.int th, .int nd, .int sw, .int so, .int lo, .ref h_one, .ref h_oth, .ref a_isb, .int cl, .int ea, .int on, .int lg, .ref a_log, .int wr, .ref a_seq, .int pe, .ref a_mho, .ref a_mih, .ref h_far])), (h_one, .inl (cI, 24, .inl one)), (h_oth, .inl (cI, 24, .inl oth)), (h_far, .inl (cI, 16, .inl r_0))]) 0 0 (va_A [(h_m, .inr (5, [.int th, .int nd, .int sw, .int so, .int lo, .ref h_one, .ref h_oth, .ref a_isb, .int cl, .int ea, .int on, .int lg, .ref a_log, .int wr, .ref a_seq, .int pe, .ref a_mho, .ref a_mih, .ref h_far])), (h_one, .inl (cI, 24, .inl one)), (h_oth, .inl (cI, 24, .inl oth)), (h_far, .inl (cI, 16, .inl far))] sz0) := by
  refine Met.ofW (cc := cX5_laysFar) (maxL := 7) (ret := none) (by decide) rfl ?_
  intro p e s m args below meth c s₁ B hml hv
  obtain ⟨rfl, hsz, hP, hKK, hD0⟩ := hv
  have hK := hKK.1
  have hx := B.exec
  have hb := B.bytes
  have hr := B.returns
  have hts := atoms_spec (ws := wsX5_laysFar) B.pre
  have hown : s.vm.findClass RX5 = some m.cls := findClass_of_methodNamed B.named
  have hlocks := B.notSynchronized
  subst hsz
  have hD := hD0.self (sz := s.heap.size)
  generalize hAe : va_A [(h_m, .inr (5, [.int th, .int nd, .int sw, .int so, .int lo, .ref h_one, .ref h_oth, .ref a_isb, .int cl, .int ea, .int on, .int lg, .ref a_log, .int wr, .ref a_seq, .int pe, .ref a_mho, .ref a_mih, .ref h_far])), (h_one, .inl (cI, 24, .inl one)), (h_oth, .inl (cI, 24, .inl oth)), (h_far, .inl (cI, 16, .inl far))] s.heap.size = A at hD ⊢
  have hA : ∀ q : Nat, s.heap.size ≤ q → A q := fun q h => by rw [← hAe]; exact Or.inr h
  have hS : va_S A s.heap s.heap [] := va_S.rf
  have hl := lv_entry ([.ref h_m, .int p0]) (n := 7) (Nat.le_of_ble_eq_true rfl)
  rw [lg_entry_eq]
  generalize (lg_sl ([.ref h_m, .int p0]) ++ List.replicate (7 - (lg_sl ([.ref h_m, .int p0])).length) Slot.unset).toArray = ls at hl ⊢
  have hl : lv_has ls 7 [(0, .ref h_m), (1, .int p0)] := hl
  obtain ⟨QQ, hQQ⟩ : ∃ Z, Z = MQ below (QM D none A [(h_m, .inr (5, [.int th, .int nd, .int sw, .int so, .int lo, .ref h_one, .ref h_oth, .ref a_isb, .int cl, .int ea, .int on, .int lg, .ref a_log, .int wr, .ref a_seq, .int pe, .ref a_mho, .ref a_mih, .ref h_far])), (h_one, .inl (cI, 24, .inl one)), (h_oth, .inl (cI, 24, .inl oth)), (h_far, .inl (cI, 16, .inl r_0))]) ([.ref h_m, .int p0] : List Value).toArray s 0 0 A := ⟨_, rfl⟩
  rw [← hQQ]
  obtain ⟨H, locs, hHe, hLe⟩ : ∃ (H : Heap) (locs : List Loc), H = s.heap ∧ locs = [] := ⟨_, _, rfl, rfl⟩
  have hP : va_P D vwCl [(h_m, .inr (5, [.int th, .int nd, .int sw, .int so, .int lo, .ref h_one, .ref h_oth, .ref a_isb, .int cl, .int ea, .int on, .int lg, .ref a_log, .int wr, .ref a_seq, .int pe, .ref a_mho, .ref a_mih, .ref h_far])), (h_one, .inl (cI, 24, .inl one)), (h_oth, .inl (cI, 24, .inl oth)), (h_far, .inl (cI, 16, .inl far))] H := by rw [hHe]; exact hP
  have hS : va_S A s.heap H locs := by rw [hHe, hLe]; exact hS
  have hW0 : ∀ QQ : State → Prop, W p l e (headSpec wsX5_laysFar rmX5_laysFar).room s m (([.ref h_m, .int p0] : List Value).toArray) below meth c H locs 0 0 QQ (F0 m 0 ls []) → W p l e (headSpec wsX5_laysFar rmX5_laysFar).room s m (([.ref h_m, .int p0] : List Value).toArray) below meth c s.heap [] 0 0 QQ (F0 m 0 ls []) := by rw [hHe, hLe]; exact fun _ h => h
  refine hW0 _ ?_
  clear hW0
  unfold fX5_laysFar at h
  refine lv_iconst (v := 0) hx hb dX5_laysFar_0 (by decide) ?_
  refine lv_istore_n (lv' := [(2, .int 0), (0, .ref h_m), (1, .int p0)]) hx hb dX5_laysFar_1 rfl hl (by decide) rfl (fun ls hl => ?_)
  refine it2_e (fun (x1 : Int32) (w2 : Nat → Int32) => ∀ (H : Heap) (locs : List Loc) (ls : Array Slot), va_P D vwCl [(h_m, .inr (5, [.int th, .int nd, .int sw, .int so, .int lo, .ref h_one, .ref h_oth, .ref a_isb, .int cl, .int ea, .int on, .int lg, .ref a_log, .int wr, .ref a_seq, .int pe, .ref a_mho, .ref a_mih, .ref h_far])), (h_one, .inl (cI, 24, .inl one)), (h_oth, .inl (cI, 24, .inl oth)), (h_far, .inl (cI, 16, .inl w2))] H → va_D A [(h_m, .inr (5, [.int th, .int nd, .int sw, .int so, .int lo, .ref h_one, .ref h_oth, .ref a_isb, .int cl, .int ea, .int on, .int lg, .ref a_log, .int wr, .ref a_seq, .int pe, .ref a_mho, .ref a_mih, .ref h_far])), (h_one, .inl (cI, 24, .inl one)), (h_oth, .inl (cI, 24, .inl oth)), (h_far, .inl (cI, 16, .inl w2))] → va_S A s.heap H locs → lv_has ls 7 [(2, .int x1), (0, .ref h_m), (1, .int p0)] → W p l e (headSpec wsX5_laysFar rmX5_laysFar).room s m (([.ref h_m, .int p0] : List Value).toArray) below meth c H locs 0 0 QQ (F0 m 2 ls [])) (fun g2_3 hg2_4 x1 w2 h H locs ls hP hD hS hl => ?_) N 0 far h H locs ls hP hD hS (lv_sub hl [0, 1, 2] rfl)
  refine lv_iload_n hx hb dX5_laysFar_2 rfl (lv_at hl 0 rfl) ?_
  refine lv_aload_n hx hb dX5_laysFar_3 rfl (lv_at hl 1 rfl) ?_
  refine va_get (D := D) (ci := 5) (v := .int nd) (C := RX5) (T := TX5) (N := 19) hx hb hts inX5_laysFar_X5 hown hK hP 0 rfl rfl 1 (by decide) (hts _ lkX5_laysFar_0) (fun _ h9 => h9) rfl dX5_laysFar_4 ?_
  refine lv_icmp_ge (tgt := 34) hx hb dX5_laysFar_7 (by decide) (fun c5 => ?_) (fun c5 => ?_)
  · have h := it_t h c5
    refine lv_iconst (v := 0) hx hb dX5_laysFar_34 (by decide) ?_
    refine lv_istore_n (lv' := [(2, .int 0), (0, .ref h_m), (1, .int p0)]) hx hb dX5_laysFar_35 rfl hl (by decide) rfl (fun ls hl => ?_)
    refine it2_e (fun (x6 : Int32) (w7 : Nat → Int32) => ∀ (H : Heap) (locs : List Loc) (ls : Array Slot), va_P D vwCl [(h_m, .inr (5, [.int th, .int nd, .int sw, .int so, .int lo, .ref h_one, .ref h_oth, .ref a_isb, .int cl, .int ea, .int on, .int lg, .ref a_log, .int wr, .ref a_seq, .int pe, .ref a_mho, .ref a_mih, .ref h_far])), (h_one, .inl (cI, 24, .inl one)), (h_oth, .inl (cI, 24, .inl oth)), (h_far, .inl (cI, 16, .inl w7))] H → va_D A [(h_m, .inr (5, [.int th, .int nd, .int sw, .int so, .int lo, .ref h_one, .ref h_oth, .ref a_isb, .int cl, .int ea, .int on, .int lg, .ref a_log, .int wr, .ref a_seq, .int pe, .ref a_mho, .ref a_mih, .ref h_far])), (h_one, .inl (cI, 24, .inl one)), (h_oth, .inl (cI, 24, .inl oth)), (h_far, .inl (cI, 16, .inl w7))] → va_S A s.heap H locs → lv_has ls 7 [(2, .int x6), (0, .ref h_m), (1, .int p0)] → W p l e (headSpec wsX5_laysFar rmX5_laysFar).room s m (([.ref h_m, .int p0] : List Value).toArray) below meth c H locs 0 0 QQ (F0 m 36 ls [])) (fun g36_8 hg36_9 x6 w7 h H locs ls hP hD hS hl => ?_) N 0 w2 h H locs ls hP hD hS (lv_sub hl [0, 1, 2] rfl)
    refine lv_iload_n hx hb dX5_laysFar_36 rfl (lv_at hl 0 rfl) ?_
    refine lv_aload_n hx hb dX5_laysFar_37 rfl (lv_at hl 1 rfl) ?_
    refine va_get (D := D) (ci := 5) (v := .int nd) (C := RX5) (T := TX5) (N := 19) hx hb hts inX5_laysFar_X5 hown hK hP 0 rfl rfl 1 (by decide) (hts _ lkX5_laysFar_0) (fun _ h9 => h9) rfl dX5_laysFar_38 ?_
    refine lv_icmp_ge (tgt := 202) hx hb dX5_laysFar_41 (by decide) (fun c10 => ?_) (fun c10 => ?_)
    · have h := it_t h c10
      cases h
      rw [hQQ]
      exact W.vret hx hb hr (fun t ht hW => ⟨rfl, by rw [ht]; exact hP, hD, hS.F ht⟩) hS.2.2 dX5_laysFar_202
    · have h := it_f h c10
      refine lv_iconst (v := 0) hx hb dX5_laysFar_44 (by decide) ?_
      refine lv_istore_n (lv' := [(3, .int 0), (2, .int x6), (0, .ref h_m), (1, .int p0)]) hx hb dX5_laysFar_45 rfl hl (by decide) rfl (fun ls hl => ?_)
      refine it2_e (fun (x11 : Int32) (w12 : Nat → Int32) => ∀ (H : Heap) (locs : List Loc) (ls : Array Slot), va_P D vwCl [(h_m, .inr (5, [.int th, .int nd, .int sw, .int so, .int lo, .ref h_one, .ref h_oth, .ref a_isb, .int cl, .int ea, .int on, .int lg, .ref a_log, .int wr, .ref a_seq, .int pe, .ref a_mho, .ref a_mih, .ref h_far])), (h_one, .inl (cI, 24, .inl one)), (h_oth, .inl (cI, 24, .inl oth)), (h_far, .inl (cI, 16, .inl w12))] H → va_D A [(h_m, .inr (5, [.int th, .int nd, .int sw, .int so, .int lo, .ref h_one, .ref h_oth, .ref a_isb, .int cl, .int ea, .int on, .int lg, .ref a_log, .int wr, .ref a_seq, .int pe, .ref a_mho, .ref a_mih, .ref h_far])), (h_one, .inl (cI, 24, .inl one)), (h_oth, .inl (cI, 24, .inl oth)), (h_far, .inl (cI, 16, .inl w12))] → va_S A s.heap H locs → lv_has ls 7 [(3, .int x11), (2, .int x6), (0, .ref h_m), (1, .int p0)] → W p l e (headSpec wsX5_laysFar rmX5_laysFar).room s m (([.ref h_m, .int p0] : List Value).toArray) below meth c H locs 0 0 QQ (F0 m 46 ls [])) (fun g46_13 hg46_14 x11 w12 h H locs ls hP hD hS hl => ?_) N 0 w7 h H locs ls hP hD hS (lv_sub hl [0, 1, 2, 3] rfl)
      refine lv_iload_n hx hb dX5_laysFar_46 rfl (lv_at hl 0 rfl) ?_
      refine lv_aload_n hx hb dX5_laysFar_47 rfl (lv_at hl 2 rfl) ?_
      refine va_get (D := D) (ci := 5) (v := .int sw) (C := RX5) (T := TX5) (N := 19) hx hb hts inX5_laysFar_X5 hown hK hP 0 rfl rfl 2 (by decide) (hts _ lkX5_laysFar_1) (fun _ h9 => h9) rfl dX5_laysFar_48 ?_
      refine lv_icmp_ge (tgt := 196) hx hb dX5_laysFar_51 (by decide) (fun c15 => ?_) (fun c15 => ?_)
      · have h := it_t h c15
        refine lv_iinc (v := x6 + 1) (lv' := [(2, .int (x6 + 1)), (3, .int x11), (0, .ref h_m), (1, .int p0)]) hx hb dX5_laysFar_196 hl (k := 1) rfl rfl (by decide) rfl (fun ls hl => ?_)
        refine lv_goto (tgt := 36) hx hb dX5_laysFar_199 (by decide) ?_
        exact hg36_9 (x6 + 1) w12 h H locs ls hP hD hS (lv_sub hl [0, 2, 3] rfl)
      · have h := it_f h c15
        refine lv_aload_n hx hb dX5_laysFar_54 rfl (lv_at hl 2 rfl) ?_
        refine va_get (D := D) (ci := 5) (v := .int cl) (C := RX5) (T := TX5) (N := 19) hx hb hts inX5_laysFar_X5 hown hK hP 0 rfl rfl 8 (by decide) (hts _ lkX5_laysFar_2) (fun _ h9 => h9) rfl dX5_laysFar_55 ?_
        refine lv_iload_n hx hb dX5_laysFar_58 rfl (lv_at hl 0 rfl) ?_
        obtain ⟨v16, hq17, h⟩ := bd1_e h
        refine zz_cS (As := [.int cl, .int x11]) ⟨hx, hb, hml, hown, hts⟩ (kX5_has l D cI cZ cL cl x11 N hq17) (va_cwS 2 hts gX5_laysFar_X5_has rfl rfl rfl (by decide +kernel) ⟨Nat.le_of_ble_eq_true rfl, Nat.le_of_ble_eq_true rfl⟩) (hP.sub (ws' := []) [] rfl) hKK rfl hl.1 rfl (Nat.le_of_ble_eq_true rfl) dX5_laysFar_59 ⟨Nat.le_of_ble_eq_true rfl, Nat.le_of_ble_eq_true rfl⟩ ?_
        refine jn1_e (fun (y18 : Int32) => ∀ (H : Heap) (locs : List Loc) (ls : Array Slot), va_P D vwCl [(h_m, .inr (5, [.int th, .int nd, .int sw, .int so, .int lo, .ref h_one, .ref h_oth, .ref a_isb, .int cl, .int ea, .int on, .int lg, .ref a_log, .int wr, .ref a_seq, .int pe, .ref a_mho, .ref a_mih, .ref h_far])), (h_one, .inl (cI, 24, .inl one)), (h_oth, .inl (cI, 24, .inl oth)), (h_far, .inl (cI, 16, .inl w12))] H → va_D A [(h_m, .inr (5, [.int th, .int nd, .int sw, .int so, .int lo, .ref h_one, .ref h_oth, .ref a_isb, .int cl, .int ea, .int on, .int lg, .ref a_log, .int wr, .ref a_seq, .int pe, .ref a_mho, .ref a_mih, .ref h_far])), (h_one, .inl (cI, 24, .inl one)), (h_oth, .inl (cI, 24, .inl oth)), (h_far, .inl (cI, 16, .inl w12))] → va_S A s.heap H locs → lv_has ls 7 [(3, .int x11), (2, .int x6), (0, .ref h_m), (1, .int p0)] → W p l e (headSpec wsX5_laysFar rmX5_laysFar).room s m (([.ref h_m, .int p0] : List Value).toArray) below meth c H locs 0 0 QQ (F0 m 70 ls [.int y18])) h (fun y18 h H locs ls hP hD hS hl => ?_) (fun g70_19 hg70_20 h => ?_)
        · refine lv_istore (lv' := [(4, .int y18), (3, .int x11), (2, .int x6), (0, .ref h_m), (1, .int p0)]) hx hb dX5_laysFar_70 hl (by decide) rfl (fun ls hl => ?_)
          refine lv_aload_n hx hb dX5_laysFar_72 rfl (lv_at hl 3 rfl) ?_
          refine va_get (D := D) (ci := 5) (v := .ref h_far) (C := RX5) (T := TX5) (N := 19) hx hb hts inX5_laysFar_X5 hown hK hP 0 rfl rfl 18 (by decide) (hts _ lkX5_laysFar_3) (fun _ h9 => h9) rfl dX5_laysFar_73 ?_
          refine lv_aload_n hx hb dX5_laysFar_76 rfl (lv_at hl 3 rfl) ?_
          refine va_get (D := D) (ci := 5) (v := .ref h_one) (C := RX5) (T := TX5) (N := 19) hx hb hts inX5_laysFar_X5 hown hK hP 0 rfl rfl 5 (by decide) (hts _ lkX5_laysFar_4) (fun _ h9 => h9) rfl dX5_laysFar_77 ?_
          refine lv_iload_n hx hb dX5_laysFar_80 rfl (lv_at hl 1 rfl) ?_
          obtain ⟨hi21, h⟩ := gin_e h
          refine va_iald hx hb hK hP 1 0 rfl rfl hi21 dX5_laysFar_81 ?_
          obtain ⟨hi22, h⟩ := gin_e h
          refine va_iald hx hb hK hP 3 0 rfl rfl hi22 dX5_laysFar_82 ?_
          refine lv_iload hx hb dX5_laysFar_83 (lv_at hl 0 rfl) ?_
          refine lv_iadd hx hb dX5_laysFar_85 ?_
          refine lv_istore (lv' := [(5, .int ((w12 (one x11.toNatClampNeg).toNatClampNeg) + y18)), (4, .int y18), (3, .int x11), (2, .int x6), (0, .ref h_m), (1, .int p0)]) hx hb dX5_laysFar_86 hl (by decide) rfl (fun ls hl => ?_)
          refine lv_aload_n hx hb dX5_laysFar_88 rfl (lv_at hl 4 rfl) ?_
          refine va_get (D := D) (ci := 5) (v := .ref h_far) (C := RX5) (T := TX5) (N := 19) hx hb hts inX5_laysFar_X5 hown hK hP 0 rfl rfl 18 (by decide) (hts _ lkX5_laysFar_3) (fun _ h9 => h9) rfl dX5_laysFar_89 ?_
          refine lv_aload_n hx hb dX5_laysFar_92 rfl (lv_at hl 4 rfl) ?_
          refine va_get (D := D) (ci := 5) (v := .ref h_oth) (C := RX5) (T := TX5) (N := 19) hx hb hts inX5_laysFar_X5 hown hK hP 0 rfl rfl 6 (by decide) (hts _ lkX5_laysFar_5) (fun _ h9 => h9) rfl dX5_laysFar_93 ?_
          refine lv_iload_n hx hb dX5_laysFar_96 rfl (lv_at hl 2 rfl) ?_
          obtain ⟨hi23, h⟩ := gin_e h
          refine va_iald hx hb hK hP 2 0 rfl rfl hi23 dX5_laysFar_97 ?_
          obtain ⟨hi24, h⟩ := gin_e h
          refine va_iald hx hb hK hP 3 0 rfl rfl hi24 dX5_laysFar_98 ?_
          refine lv_iload hx hb dX5_laysFar_99 (lv_at hl 1 rfl) ?_
          refine lv_iadd hx hb dX5_laysFar_101 ?_
          refine lv_istore (lv' := [(6, .int ((w12 (oth x11.toNatClampNeg).toNatClampNeg) + y18)), (5, .int ((w12 (one x11.toNatClampNeg).toNatClampNeg) + y18)), (4, .int y18), (3, .int x11), (2, .int x6), (0, .ref h_m), (1, .int p0)]) hx hb dX5_laysFar_102 hl (by decide) rfl (fun ls hl => ?_)
          refine lv_aload_n hx hb dX5_laysFar_104 rfl (lv_at hl 5 rfl) ?_
          refine va_get (D := D) (ci := 5) (v := .ref h_far) (C := RX5) (T := TX5) (N := 19) hx hb hts inX5_laysFar_X5 hown hK hP 0 rfl rfl 18 (by decide) (hts _ lkX5_laysFar_3) (fun _ h9 => h9) rfl dX5_laysFar_105 ?_
          refine lv_aload_n hx hb dX5_laysFar_108 rfl (lv_at hl 5 rfl) ?_
          refine va_get (D := D) (ci := 5) (v := .ref h_oth) (C := RX5) (T := TX5) (N := 19) hx hb hts inX5_laysFar_X5 hown hK hP 0 rfl rfl 6 (by decide) (hts _ lkX5_laysFar_5) (fun _ h9 => h9) rfl dX5_laysFar_109 ?_
          refine lv_iload_n hx hb dX5_laysFar_112 rfl (lv_at hl 3 rfl) ?_
          obtain ⟨hi25, h⟩ := gin_e h
          refine va_iald hx hb hK hP 2 0 rfl rfl hi25 dX5_laysFar_113 ?_
          refine lv_iload hx hb dX5_laysFar_114 (lv_at hl 1 rfl) ?_
          refine lv_aload_n hx hb dX5_laysFar_116 rfl (lv_at hl 5 rfl) ?_
          refine va_get (D := D) (ci := 5) (v := .ref h_far) (C := RX5) (T := TX5) (N := 19) hx hb hts inX5_laysFar_X5 hown hK hP 0 rfl rfl 18 (by decide) (hts _ lkX5_laysFar_3) (fun _ h9 => h9) rfl dX5_laysFar_117 ?_
          refine lv_aload_n hx hb dX5_laysFar_120 rfl (lv_at hl 5 rfl) ?_
          refine va_get (D := D) (ci := 5) (v := .ref h_oth) (C := RX5) (T := TX5) (N := 19) hx hb hts inX5_laysFar_X5 hown hK hP 0 rfl rfl 6 (by decide) (hts _ lkX5_laysFar_5) (fun _ h9 => h9) rfl dX5_laysFar_121 ?_
          refine lv_iload_n hx hb dX5_laysFar_124 rfl (lv_at hl 3 rfl) ?_
          obtain ⟨hi26, h⟩ := gin_e h
          refine va_iald hx hb hK hP 2 0 rfl rfl hi26 dX5_laysFar_125 ?_
          obtain ⟨hi27, h⟩ := gin_e h
          refine va_iald hx hb hK hP 3 0 rfl rfl hi27 dX5_laysFar_126 ?_
          refine jn1_e (fun (y28 : Int32) => ∀ (H : Heap) (locs : List Loc) (ls : Array Slot), va_P D vwCl [(h_m, .inr (5, [.int th, .int nd, .int sw, .int so, .int lo, .ref h_one, .ref h_oth, .ref a_isb, .int cl, .int ea, .int on, .int lg, .ref a_log, .int wr, .ref a_seq, .int pe, .ref a_mho, .ref a_mih, .ref h_far])), (h_one, .inl (cI, 24, .inl one)), (h_oth, .inl (cI, 24, .inl oth)), (h_far, .inl (cI, 16, .inl w12))] H → va_D A [(h_m, .inr (5, [.int th, .int nd, .int sw, .int so, .int lo, .ref h_one, .ref h_oth, .ref a_isb, .int cl, .int ea, .int on, .int lg, .ref a_log, .int wr, .ref a_seq, .int pe, .ref a_mho, .ref a_mih, .ref h_far])), (h_one, .inl (cI, 24, .inl one)), (h_oth, .inl (cI, 24, .inl oth)), (h_far, .inl (cI, 16, .inl w12))] → va_S A s.heap H locs → lv_has ls 7 [(6, .int ((w12 (oth x11.toNatClampNeg).toNatClampNeg) + y18)), (5, .int ((w12 (one x11.toNatClampNeg).toNatClampNeg) + y18)), (4, .int y18), (3, .int x11), (2, .int x6), (0, .ref h_m), (1, .int p0)] → W p l e (headSpec wsX5_laysFar rmX5_laysFar).room s m (([.ref h_m, .int p0] : List Value).toArray) below meth c H locs 0 0 QQ (F0 m 146 ls [.int y28, .int (oth x11.toNatClampNeg), .ref h_far])) h (fun y28 h H locs ls hP hD hS hl => ?_) (fun g146_29 hg146_30 h => ?_)
          · obtain ⟨hi31, h⟩ := gin_e h
            refine va_iast hx hb hK hP hD hS 3 0 rfl rfl hi31 dX5_laysFar_146 (fun H locs hP hD hS => ?_)
            have hP : va_P D vwCl [(h_m, .inr (5, [.int th, .int nd, .int sw, .int so, .int lo, .ref h_one, .ref h_oth, .ref a_isb, .int cl, .int ea, .int on, .int lg, .ref a_log, .int wr, .ref a_seq, .int pe, .ref a_mho, .ref a_mih, .ref h_far])), (h_one, .inl (cI, 24, .inl one)), (h_oth, .inl (cI, 24, .inl oth)), (h_far, .inl (cI, 16, .inl (upd w12 (oth x11.toNatClampNeg).toNatClampNeg y28)))] H := hP
            have hD : va_D A [(h_m, .inr (5, [.int th, .int nd, .int sw, .int so, .int lo, .ref h_one, .ref h_oth, .ref a_isb, .int cl, .int ea, .int on, .int lg, .ref a_log, .int wr, .ref a_seq, .int pe, .ref a_mho, .ref a_mih, .ref h_far])), (h_one, .inl (cI, 24, .inl one)), (h_oth, .inl (cI, 24, .inl oth)), (h_far, .inl (cI, 16, .inl (upd w12 (oth x11.toNatClampNeg).toNatClampNeg y28)))] := hD
            refine lv_aload_n hx hb dX5_laysFar_147 rfl (lv_at hl 5 rfl) ?_
            refine va_get (D := D) (ci := 5) (v := .ref h_far) (C := RX5) (T := TX5) (N := 19) hx hb hts inX5_laysFar_X5 hown hK hP 0 rfl rfl 18 (by decide) (hts _ lkX5_laysFar_3) (fun _ h9 => h9) rfl dX5_laysFar_148 ?_
            refine lv_aload_n hx hb dX5_laysFar_151 rfl (lv_at hl 5 rfl) ?_
            refine va_get (D := D) (ci := 5) (v := .ref h_one) (C := RX5) (T := TX5) (N := 19) hx hb hts inX5_laysFar_X5 hown hK hP 0 rfl rfl 5 (by decide) (hts _ lkX5_laysFar_4) (fun _ h9 => h9) rfl dX5_laysFar_152 ?_
            refine lv_iload_n hx hb dX5_laysFar_155 rfl (lv_at hl 3 rfl) ?_
            obtain ⟨hi32, h⟩ := gin_e h
            refine va_iald hx hb hK hP 1 0 rfl rfl hi32 dX5_laysFar_156 ?_
            refine lv_iload hx hb dX5_laysFar_157 (lv_at hl 0 rfl) ?_
            refine lv_aload_n hx hb dX5_laysFar_159 rfl (lv_at hl 5 rfl) ?_
            refine va_get (D := D) (ci := 5) (v := .ref h_far) (C := RX5) (T := TX5) (N := 19) hx hb hts inX5_laysFar_X5 hown hK hP 0 rfl rfl 18 (by decide) (hts _ lkX5_laysFar_3) (fun _ h9 => h9) rfl dX5_laysFar_160 ?_
            refine lv_aload_n hx hb dX5_laysFar_163 rfl (lv_at hl 5 rfl) ?_
            refine va_get (D := D) (ci := 5) (v := .ref h_one) (C := RX5) (T := TX5) (N := 19) hx hb hts inX5_laysFar_X5 hown hK hP 0 rfl rfl 5 (by decide) (hts _ lkX5_laysFar_4) (fun _ h9 => h9) rfl dX5_laysFar_164 ?_
            refine lv_iload_n hx hb dX5_laysFar_167 rfl (lv_at hl 3 rfl) ?_
            obtain ⟨hi33, h⟩ := gin_e h
            refine va_iald hx hb hK hP 1 0 rfl rfl hi33 dX5_laysFar_168 ?_
            obtain ⟨hi34, h⟩ := gin_e h
            refine va_iald hx hb hK hP 3 0 rfl rfl hi34 dX5_laysFar_169 ?_
            refine lv_icmp_ge (tgt := 178) hx hb dX5_laysFar_170 (by decide) (fun c35 => ?_) (fun c35 => ?_)
            · have h := it_t h c35
              refine lv_aload_n hx hb dX5_laysFar_178 rfl (lv_at hl 5 rfl) ?_
              refine va_get (D := D) (ci := 5) (v := .ref h_far) (C := RX5) (T := TX5) (N := 19) hx hb hts inX5_laysFar_X5 hown hK hP 0 rfl rfl 18 (by decide) (hts _ lkX5_laysFar_3) (fun _ h9 => h9) rfl dX5_laysFar_179 ?_
              refine lv_aload_n hx hb dX5_laysFar_182 rfl (lv_at hl 5 rfl) ?_
              refine va_get (D := D) (ci := 5) (v := .ref h_one) (C := RX5) (T := TX5) (N := 19) hx hb hts inX5_laysFar_X5 hown hK hP 0 rfl rfl 5 (by decide) (hts _ lkX5_laysFar_4) (fun _ h9 => h9) rfl dX5_laysFar_183 ?_
              refine lv_iload_n hx hb dX5_laysFar_186 rfl (lv_at hl 3 rfl) ?_
              obtain ⟨hi36, h⟩ := gin_e h
              refine va_iald hx hb hK hP 1 0 rfl rfl hi36 dX5_laysFar_187 ?_
              obtain ⟨hi37, h⟩ := gin_e h
              refine va_iald hx hb hK hP 3 0 rfl rfl hi37 dX5_laysFar_188 ?_
              obtain ⟨hi38, h⟩ := gin_e h
              refine va_iast hx hb hK hP hD hS 3 0 rfl rfl hi38 dX5_laysFar_189 (fun H locs hP hD hS => ?_)
              have hP : va_P D vwCl [(h_m, .inr (5, [.int th, .int nd, .int sw, .int so, .int lo, .ref h_one, .ref h_oth, .ref a_isb, .int cl, .int ea, .int on, .int lg, .ref a_log, .int wr, .ref a_seq, .int pe, .ref a_mho, .ref a_mih, .ref h_far])), (h_one, .inl (cI, 24, .inl one)), (h_oth, .inl (cI, 24, .inl oth)), (h_far, .inl (cI, 16, .inl (upd (upd w12 (oth x11.toNatClampNeg).toNatClampNeg y28) (one x11.toNatClampNeg).toNatClampNeg ((upd w12 (oth x11.toNatClampNeg).toNatClampNeg y28) (one x11.toNatClampNeg).toNatClampNeg))))] H := hP
              have hD : va_D A [(h_m, .inr (5, [.int th, .int nd, .int sw, .int so, .int lo, .ref h_one, .ref h_oth, .ref a_isb, .int cl, .int ea, .int on, .int lg, .ref a_log, .int wr, .ref a_seq, .int pe, .ref a_mho, .ref a_mih, .ref h_far])), (h_one, .inl (cI, 24, .inl one)), (h_oth, .inl (cI, 24, .inl oth)), (h_far, .inl (cI, 16, .inl (upd (upd w12 (oth x11.toNatClampNeg).toNatClampNeg y28) (one x11.toNatClampNeg).toNatClampNeg ((upd w12 (oth x11.toNatClampNeg).toNatClampNeg y28) (one x11.toNatClampNeg).toNatClampNeg))))] := hD
              refine lv_iinc (v := x11 + 1) (lv' := [(3, .int (x11 + 1)), (6, .int ((w12 (oth x11.toNatClampNeg).toNatClampNeg) + y18)), (5, .int ((w12 (one x11.toNatClampNeg).toNatClampNeg) + y18)), (4, .int y18), (2, .int x6), (0, .ref h_m), (1, .int p0)]) hx hb dX5_laysFar_190 hl (k := 3) rfl rfl (by decide) rfl (fun ls hl => ?_)
              refine lv_goto (tgt := 46) hx hb dX5_laysFar_193 (by decide) ?_
              exact hg46_14 (x11 + 1) (upd (upd w12 (oth x11.toNatClampNeg).toNatClampNeg y28) (one x11.toNatClampNeg).toNatClampNeg ((upd w12 (oth x11.toNatClampNeg).toNatClampNeg y28) (one x11.toNatClampNeg).toNatClampNeg)) h H locs ls hP hD hS (lv_sub hl [0, 4, 5, 6] rfl)
            · have h := it_f h c35
              refine lv_iload hx hb dX5_laysFar_173 (lv_at hl 0 rfl) ?_
              refine lv_goto (tgt := 189) hx hb dX5_laysFar_175 (by decide) ?_
              obtain ⟨hi39, h⟩ := gin_e h
              refine va_iast hx hb hK hP hD hS 3 0 rfl rfl hi39 dX5_laysFar_189 (fun H locs hP hD hS => ?_)
              have hP : va_P D vwCl [(h_m, .inr (5, [.int th, .int nd, .int sw, .int so, .int lo, .ref h_one, .ref h_oth, .ref a_isb, .int cl, .int ea, .int on, .int lg, .ref a_log, .int wr, .ref a_seq, .int pe, .ref a_mho, .ref a_mih, .ref h_far])), (h_one, .inl (cI, 24, .inl one)), (h_oth, .inl (cI, 24, .inl oth)), (h_far, .inl (cI, 16, .inl (upd (upd w12 (oth x11.toNatClampNeg).toNatClampNeg y28) (one x11.toNatClampNeg).toNatClampNeg ((w12 (oth x11.toNatClampNeg).toNatClampNeg) + y18))))] H := hP
              have hD : va_D A [(h_m, .inr (5, [.int th, .int nd, .int sw, .int so, .int lo, .ref h_one, .ref h_oth, .ref a_isb, .int cl, .int ea, .int on, .int lg, .ref a_log, .int wr, .ref a_seq, .int pe, .ref a_mho, .ref a_mih, .ref h_far])), (h_one, .inl (cI, 24, .inl one)), (h_oth, .inl (cI, 24, .inl oth)), (h_far, .inl (cI, 16, .inl (upd (upd w12 (oth x11.toNatClampNeg).toNatClampNeg y28) (one x11.toNatClampNeg).toNatClampNeg ((w12 (oth x11.toNatClampNeg).toNatClampNeg) + y18))))] := hD
              refine lv_iinc (v := x11 + 1) (lv' := [(3, .int (x11 + 1)), (6, .int ((w12 (oth x11.toNatClampNeg).toNatClampNeg) + y18)), (5, .int ((w12 (one x11.toNatClampNeg).toNatClampNeg) + y18)), (4, .int y18), (2, .int x6), (0, .ref h_m), (1, .int p0)]) hx hb dX5_laysFar_190 hl (k := 3) rfl rfl (by decide) rfl (fun ls hl => ?_)
              refine lv_goto (tgt := 46) hx hb dX5_laysFar_193 (by decide) ?_
              exact hg46_14 (x11 + 1) (upd (upd w12 (oth x11.toNatClampNeg).toNatClampNeg y28) (one x11.toNatClampNeg).toNatClampNeg ((w12 (oth x11.toNatClampNeg).toNatClampNeg) + y18)) h H locs ls hP hD hS (lv_sub hl [0, 4, 5, 6] rfl)
          · refine lv_icmp_ge (tgt := 135) hx hb dX5_laysFar_127 (by decide) (fun c40 => ?_) (fun c40 => ?_)
            · have h := it_t h c40
              refine lv_aload_n hx hb dX5_laysFar_135 rfl (lv_at hl 5 rfl) ?_
              refine va_get (D := D) (ci := 5) (v := .ref h_far) (C := RX5) (T := TX5) (N := 19) hx hb hts inX5_laysFar_X5 hown hK hP 0 rfl rfl 18 (by decide) (hts _ lkX5_laysFar_3) (fun _ h9 => h9) rfl dX5_laysFar_136 ?_
              refine lv_aload_n hx hb dX5_laysFar_139 rfl (lv_at hl 5 rfl) ?_
              refine va_get (D := D) (ci := 5) (v := .ref h_oth) (C := RX5) (T := TX5) (N := 19) hx hb hts inX5_laysFar_X5 hown hK hP 0 rfl rfl 6 (by decide) (hts _ lkX5_laysFar_5) (fun _ h9 => h9) rfl dX5_laysFar_140 ?_
              refine lv_iload_n hx hb dX5_laysFar_143 rfl (lv_at hl 3 rfl) ?_
              obtain ⟨hi41, h⟩ := gin_e h
              refine va_iald hx hb hK hP 2 0 rfl rfl hi41 dX5_laysFar_144 ?_
              obtain ⟨hi42, h⟩ := gin_e h
              refine va_iald hx hb hK hP 3 0 rfl rfl hi42 dX5_laysFar_145 ?_
              exact hg146_30 (w12 (oth x11.toNatClampNeg).toNatClampNeg) h H locs ls hP hD hS (lv_sub hl [0, 1, 2, 3, 4, 5, 6] rfl)
            · have h := it_f h c40
              refine lv_iload hx hb dX5_laysFar_130 (lv_at hl 1 rfl) ?_
              refine lv_goto (tgt := 146) hx hb dX5_laysFar_132 (by decide) ?_
              exact hg146_30 ((w12 (one x11.toNatClampNeg).toNatClampNeg) + y18) h H locs ls hP hD hS (lv_sub hl [0, 1, 2, 3, 4, 5, 6] rfl)
        · refine lv_if_eq (tgt := 69) hx hb dX5_laysFar_62 (by decide) (fun c43 => ?_) (fun c43 => ?_)
          · have h := it_t h c43
            refine lv_iconst (v := 1) hx hb dX5_laysFar_69 (by decide) ?_
            exact hg70_20 1 h H locs ls hP hD hS (lv_sub hl [0, 1, 2, 3] rfl)
          · have h := it_f h c43
            refine lv_iconst (v := 0) hx hb dX5_laysFar_65 (by decide) ?_
            refine lv_goto (tgt := 70) hx hb dX5_laysFar_66 (by decide) ?_
            exact hg70_20 0 h H locs ls hP hD hS (lv_sub hl [0, 1, 2, 3] rfl)
  · have h := it_f h c5
    refine lv_aload_n hx hb dX5_laysFar_10 rfl (lv_at hl 1 rfl) ?_
    refine va_get (D := D) (ci := 5) (v := .ref h_far) (C := RX5) (T := TX5) (N := 19) hx hb hts inX5_laysFar_X5 hown hK hP 0 rfl rfl 18 (by decide) (hts _ lkX5_laysFar_3) (fun _ h9 => h9) rfl dX5_laysFar_11 ?_
    refine lv_iload_n hx hb dX5_laysFar_14 rfl (lv_at hl 0 rfl) ?_
    refine lv_iload_n hx hb dX5_laysFar_15 rfl (lv_at hl 0 rfl) ?_
    refine lv_iload_n hx hb dX5_laysFar_16 rfl (lv_at hl 2 rfl) ?_
    refine lv_icmp_ne (tgt := 24) hx hb dX5_laysFar_17 (by decide) (fun c44 => ?_) (fun c44 => ?_)
    · have h := it_f h c44
      refine lv_sipush (v := 1000) hx hb dX5_laysFar_24 (by decide) ?_
      obtain ⟨hi45, h⟩ := gin_e h
      refine va_iast hx hb hK hP hD hS 3 0 rfl rfl hi45 dX5_laysFar_27 (fun H locs hP hD hS => ?_)
      have hP : va_P D vwCl [(h_m, .inr (5, [.int th, .int nd, .int sw, .int so, .int lo, .ref h_one, .ref h_oth, .ref a_isb, .int cl, .int ea, .int on, .int lg, .ref a_log, .int wr, .ref a_seq, .int pe, .ref a_mho, .ref a_mih, .ref h_far])), (h_one, .inl (cI, 24, .inl one)), (h_oth, .inl (cI, 24, .inl oth)), (h_far, .inl (cI, 16, .inl (upd w2 x1.toNatClampNeg 1000)))] H := hP
      have hD : va_D A [(h_m, .inr (5, [.int th, .int nd, .int sw, .int so, .int lo, .ref h_one, .ref h_oth, .ref a_isb, .int cl, .int ea, .int on, .int lg, .ref a_log, .int wr, .ref a_seq, .int pe, .ref a_mho, .ref a_mih, .ref h_far])), (h_one, .inl (cI, 24, .inl one)), (h_oth, .inl (cI, 24, .inl oth)), (h_far, .inl (cI, 16, .inl (upd w2 x1.toNatClampNeg 1000)))] := hD
      refine lv_iinc (v := x1 + 1) (lv' := [(2, .int (x1 + 1)), (0, .ref h_m), (1, .int p0)]) hx hb dX5_laysFar_28 hl (k := 0) rfl rfl (by decide) rfl (fun ls hl => ?_)
      refine lv_goto (tgt := 2) hx hb dX5_laysFar_31 (by decide) ?_
      exact hg2_4 (x1 + 1) (upd w2 x1.toNatClampNeg 1000) h H locs ls hP hD hS (lv_sub hl [0, 1, 2] rfl)
    · have h := it_t h c44
      refine lv_iconst (v := 0) hx hb dX5_laysFar_20 (by decide) ?_
      refine lv_goto (tgt := 27) hx hb dX5_laysFar_21 (by decide) ?_
      obtain ⟨hi46, h⟩ := gin_e h
      refine va_iast hx hb hK hP hD hS 3 0 rfl rfl hi46 dX5_laysFar_27 (fun H locs hP hD hS => ?_)
      have hP : va_P D vwCl [(h_m, .inr (5, [.int th, .int nd, .int sw, .int so, .int lo, .ref h_one, .ref h_oth, .ref a_isb, .int cl, .int ea, .int on, .int lg, .ref a_log, .int wr, .ref a_seq, .int pe, .ref a_mho, .ref a_mih, .ref h_far])), (h_one, .inl (cI, 24, .inl one)), (h_oth, .inl (cI, 24, .inl oth)), (h_far, .inl (cI, 16, .inl (upd w2 x1.toNatClampNeg 0)))] H := hP
      have hD : va_D A [(h_m, .inr (5, [.int th, .int nd, .int sw, .int so, .int lo, .ref h_one, .ref h_oth, .ref a_isb, .int cl, .int ea, .int on, .int lg, .ref a_log, .int wr, .ref a_seq, .int pe, .ref a_mho, .ref a_mih, .ref h_far])), (h_one, .inl (cI, 24, .inl one)), (h_oth, .inl (cI, 24, .inl oth)), (h_far, .inl (cI, 16, .inl (upd w2 x1.toNatClampNeg 0)))] := hD
      refine lv_iinc (v := x1 + 1) (lv' := [(2, .int (x1 + 1)), (0, .ref h_m), (1, .int p0)]) hx hb dX5_laysFar_28 hl (k := 0) rfl rfl (by decide) rfl (fun ls hl => ?_)
      refine lv_goto (tgt := 2) hx hb dX5_laysFar_31 (by decide) ?_
      exact hg2_4 (x1 + 1) (upd w2 x1.toNatClampNeg 0) h H locs ls hP hD hS (lv_sub hl [0, 1, 2] rfl)

def fX5_toLive (N : Nat) (th : Int32) (nd : Int32) (sw : Int32) (so : Int32) (lo : Int32) (cl : Int32) (ea : Int32) (on : Int32) (lg : Int32) (wr : Int32) (pe : Int32) (one : Nat → Int32) (oth : Nat → Int32) (far : Nat → Int32) (p0 : Int32) : Option ((Int32) × (Int32) × (Nat → Int32)) :=
  bd1 (fX5_isNode N th nd sw so lo cl ea on lg wr pe p0) (fun v1 => jn1 (fun (y3 : Int32) => (if y3 ≤ 0 then bd1 (fX5_laysFar N y3 nd sw so lo cl ea on lg wr pe one oth far p0) (fun w8 => it2 (fun g37_11 (x9 : Int32) (x10 : Int32) => (if nd ≤ x9 then jn1 (fun (y14 : Int32) => (if y14 ≤ 0 then some (x10, y14, w8) else some (0, y14, w8))) (fun g96_15 => (if x10 = 1000 then g96_15 2 else g96_15 0)) else bd1 (fX5_has N  on x9) (fun v19 => (if v19 = 0 then g37_11 (x9 + 1) x10 else gin x9 16 ((if x10 ≤ (w8 x9.toNatClampNeg) then g37_11 (x9 + 1) x10 else gin x9 16 (g37_11 (x9 + 1) (w8 x9.toNatClampNeg)))))))) N 0 1000) else some (0, y3, far))) (fun g14_4 => (if v1 = 0 then g14_4 1 else g14_4 0)))
set_option maxRecDepth 100000 in
theorem inX5_toLive_X5 : ∀ w ∈ wsX50, w ∈ wsX5_toLive := by decide +kernel
set_option maxRecDepth 100000 in
theorem lkX5_toLive_0 : (.fieldLink RX5 35 "SwitchlogModel" "thrown" "I" : Cond) ∈ wsX5_toLive := by decide +kernel
set_option maxRecDepth 100000 in
theorem lkX5_toLive_1 : (.fieldLink RX5 39 "SwitchlogModel" "nodes" "I" : Cond) ∈ wsX5_toLive := by decide +kernel
set_option maxRecDepth 100000 in
theorem lkX5_toLive_2 : (.fieldLink RX5 67 "SwitchlogModel" "on" "I" : Cond) ∈ wsX5_toLive := by decide +kernel
set_option maxRecDepth 100000 in
theorem lkX5_toLive_3 : (.fieldLink RX5 32 "SwitchlogModel" "far" "[I" : Cond) ∈ wsX5_toLive := by decide +kernel
abbrev rmX5_toLive : Room := { frames := 2, cells := 0, slots := 0, locals := 47 }
set_option maxHeartbeats 4000000 in
set_option maxRecDepth 100000 in
theorem kX5_toLive (l : Launch) (D : va_G) (cI cZ cL : ClassId) (sz0 : Nat) (h_m a_isb a_log a_seq a_mho a_mih h_one h_oth h_far : Nat) (th : Int32) (nd : Int32) (sw : Int32) (so : Int32) (lo : Int32) (cl : Int32) (ea : Int32) (on : Int32) (lg : Int32) (wr : Int32) (pe : Int32) (one : Nat → Int32) (oth : Nat → Int32) (far : Nat → Int32) (p0 : Int32) (N : Nat) {r : Int32} {r_0 : Int32} {r_1 : Nat → Int32} (h : fX5_toLive N th nd sw so lo cl ea on lg wr pe one oth far p0 = some (r, r_0, r_1)) : Met l yX5_toLive wsX5_toLive rmX5_toLive (PM D cI cZ cL [.ref h_m, .int p0] [(h_m, .inr (5, [.int th, .int nd, .int sw, .int so, .int lo, .ref h_one, .ref h_oth, .ref a_isb, .int cl, .int ea, .int on, .int lg, .ref a_log, .int wr, .ref a_seq, .int pe, .ref a_mho, .ref a_mih, .ref h_far])), (h_one, .inl (cI, 24, .inl one)), (h_oth, .inl (cI, 24, .inl oth)), (h_far, .inl (cI, 16, .inl far))] sz0) (QM D (some (.int r)) (va_A [(h_m, .inr (5, [.int th, .int nd, .int sw, .int so, .int lo, .ref h_one, .ref h_oth, .ref a_isb, .int cl, .int ea, .int on, .int lg, .ref a_log, .int wr, .ref a_seq, .int pe, .ref a_mho, .ref a_mih, .ref h_far])), (h_one, .inl (cI, 24, .inl one)), (h_oth, .inl (cI, 24, .inl oth)), (h_far, .inl (cI, 16, .inl far))] sz0) [(h_m, .inr (5, [.int r_0, .int nd, .int sw, .int so, .int lo, .ref h_one, .ref h_oth, .ref a_isb, .int cl, .int ea, .int on, .int lg, .ref a_log, .int wr, .ref a_seq, .int pe, .ref a_mho, .ref a_mih, .ref h_far])), (h_one, .inl (cI, 24, .inl one)), (h_oth, .inl (cI, 24, .inl oth)), (h_far, .inl (cI, 16, .inl r_1))]) 0 0 (va_A [(h_m, .inr (5, [.int th, .int nd, .int sw, .int so, .int lo, .ref h_one, .ref h_oth, .ref a_isb, .int cl, .int ea, .int on, .int lg, .ref a_log, .int wr, .ref a_seq, .int pe, .ref a_mho, .ref a_mih, .ref h_far])), (h_one, .inl (cI, 24, .inl one)), (h_oth, .inl (cI, 24, .inl oth)), (h_far, .inl (cI, 16, .inl far))] sz0) := by
  refine Met.ofW (cc := cX5_toLive) (maxL := 4) (ret := (some .int)) (by decide) rfl ?_
  intro p e s m args below meth c s₁ B hml hv
  obtain ⟨rfl, hsz, hP, hKK, hD0⟩ := hv
  have hK := hKK.1
  have hx := B.exec
  have hb := B.bytes
  have hr := B.returns
  have hts := atoms_spec (ws := wsX5_toLive) B.pre
  have hown : s.vm.findClass RX5 = some m.cls := findClass_of_methodNamed B.named
  have hlocks := B.notSynchronized
  subst hsz
  have hD := hD0.self (sz := s.heap.size)
  generalize hAe : va_A [(h_m, .inr (5, [.int th, .int nd, .int sw, .int so, .int lo, .ref h_one, .ref h_oth, .ref a_isb, .int cl, .int ea, .int on, .int lg, .ref a_log, .int wr, .ref a_seq, .int pe, .ref a_mho, .ref a_mih, .ref h_far])), (h_one, .inl (cI, 24, .inl one)), (h_oth, .inl (cI, 24, .inl oth)), (h_far, .inl (cI, 16, .inl far))] s.heap.size = A at hD ⊢
  have hA : ∀ q : Nat, s.heap.size ≤ q → A q := fun q h => by rw [← hAe]; exact Or.inr h
  have hS : va_S A s.heap s.heap [] := va_S.rf
  have hl := lv_entry ([.ref h_m, .int p0]) (n := 4) (Nat.le_of_ble_eq_true rfl)
  rw [lg_entry_eq]
  generalize (lg_sl ([.ref h_m, .int p0]) ++ List.replicate (4 - (lg_sl ([.ref h_m, .int p0])).length) Slot.unset).toArray = ls at hl ⊢
  have hl : lv_has ls 4 [(0, .ref h_m), (1, .int p0)] := hl
  obtain ⟨QQ, hQQ⟩ : ∃ Z, Z = MQ below (QM D (some (.int r)) A [(h_m, .inr (5, [.int r_0, .int nd, .int sw, .int so, .int lo, .ref h_one, .ref h_oth, .ref a_isb, .int cl, .int ea, .int on, .int lg, .ref a_log, .int wr, .ref a_seq, .int pe, .ref a_mho, .ref a_mih, .ref h_far])), (h_one, .inl (cI, 24, .inl one)), (h_oth, .inl (cI, 24, .inl oth)), (h_far, .inl (cI, 16, .inl r_1))]) ([.ref h_m, .int p0] : List Value).toArray s 0 0 A := ⟨_, rfl⟩
  rw [← hQQ]
  obtain ⟨H, locs, hHe, hLe⟩ : ∃ (H : Heap) (locs : List Loc), H = s.heap ∧ locs = [] := ⟨_, _, rfl, rfl⟩
  have hP : va_P D vwCl [(h_m, .inr (5, [.int th, .int nd, .int sw, .int so, .int lo, .ref h_one, .ref h_oth, .ref a_isb, .int cl, .int ea, .int on, .int lg, .ref a_log, .int wr, .ref a_seq, .int pe, .ref a_mho, .ref a_mih, .ref h_far])), (h_one, .inl (cI, 24, .inl one)), (h_oth, .inl (cI, 24, .inl oth)), (h_far, .inl (cI, 16, .inl far))] H := by rw [hHe]; exact hP
  have hS : va_S A s.heap H locs := by rw [hHe, hLe]; exact hS
  have hW0 : ∀ QQ : State → Prop, W p l e (headSpec wsX5_toLive rmX5_toLive).room s m (([.ref h_m, .int p0] : List Value).toArray) below meth c H locs 0 0 QQ (F0 m 0 ls []) → W p l e (headSpec wsX5_toLive rmX5_toLive).room s m (([.ref h_m, .int p0] : List Value).toArray) below meth c s.heap [] 0 0 QQ (F0 m 0 ls []) := by rw [hHe, hLe]; exact fun _ h => h
  refine hW0 _ ?_
  clear hW0
  unfold fX5_toLive at h
  refine lv_aload_n hx hb dX5_toLive_0 rfl (lv_at hl 0 rfl) ?_
  refine lv_aload_n hx hb dX5_toLive_1 rfl (lv_at hl 0 rfl) ?_
  refine lv_iload_n hx hb dX5_toLive_2 rfl (lv_at hl 1 rfl) ?_
  obtain ⟨v1, hq2, h⟩ := bd1_e h
  refine zz_cV (As := [.int p0]) ⟨hx, hb, hml, hown, hts⟩ (kX5_isNode l D cI cZ cL h_m h_one h_oth a_isb a_log a_seq a_mho a_mih h_far th nd sw so lo cl ea on lg wr pe p0 N hq2) (cwV 1 hts gX5_toLive_X5_isNode rfl rfl rfl (by decide +kernel) ⟨Nat.le_of_ble_eq_true rfl, Nat.le_of_ble_eq_true rfl⟩) (hP.sub (ws' := [(h_m, .inr (5, [.int th, .int nd, .int sw, .int so, .int lo, .ref h_one, .ref h_oth, .ref a_isb, .int cl, .int ea, .int on, .int lg, .ref a_log, .int wr, .ref a_seq, .int pe, .ref a_mho, .ref a_mih, .ref h_far]))]) [0] rfl) hKK (va_recv hK hP (ci := 5) (q0 := 0) rfl rfl) rfl hl.1 rfl (Nat.le_of_ble_eq_true rfl) dX5_toLive_3 ⟨Nat.le_of_ble_eq_true rfl, Nat.le_of_ble_eq_true rfl⟩ ?_
  refine jn1_e (fun (y3 : Int32) => ∀ (H : Heap) (locs : List Loc) (ls : Array Slot), va_P D vwCl [(h_m, .inr (5, [.int th, .int nd, .int sw, .int so, .int lo, .ref h_one, .ref h_oth, .ref a_isb, .int cl, .int ea, .int on, .int lg, .ref a_log, .int wr, .ref a_seq, .int pe, .ref a_mho, .ref a_mih, .ref h_far])), (h_one, .inl (cI, 24, .inl one)), (h_oth, .inl (cI, 24, .inl oth)), (h_far, .inl (cI, 16, .inl far))] H → va_D A [(h_m, .inr (5, [.int th, .int nd, .int sw, .int so, .int lo, .ref h_one, .ref h_oth, .ref a_isb, .int cl, .int ea, .int on, .int lg, .ref a_log, .int wr, .ref a_seq, .int pe, .ref a_mho, .ref a_mih, .ref h_far])), (h_one, .inl (cI, 24, .inl one)), (h_oth, .inl (cI, 24, .inl oth)), (h_far, .inl (cI, 16, .inl far))] → va_S A s.heap H locs → lv_has ls 4 [(0, .ref h_m), (1, .int p0)] → W p l e (headSpec wsX5_toLive rmX5_toLive).room s m (([.ref h_m, .int p0] : List Value).toArray) below meth c H locs 0 0 QQ (F0 m 14 ls [.int y3, .ref h_m])) h (fun y3 h H locs ls hP hD hS hl => ?_) (fun g14_4 hg14_5 h => ?_)
  · refine va_put (D := D) (ci := 5) (v := .int y3) (ty := .int) (C := RX5) (T := TX5) (N := 19) hx hb hts inX5_toLive_X5 tyX5 tyX5_ok nmX5 hown hK hP hD hS 0 rfl rfl 0 (by decide) (hts _ lkX5_toLive_0) (fun _ h9 => h9) rfl (by decide +kernel) rfl rfl (Nat.le_of_ble_eq_true rfl) dX5_toLive_14 (fun H locs hP hD hS => ?_)
    have hP : va_P D vwCl [(h_m, .inr (5, [.int y3, .int nd, .int sw, .int so, .int lo, .ref h_one, .ref h_oth, .ref a_isb, .int cl, .int ea, .int on, .int lg, .ref a_log, .int wr, .ref a_seq, .int pe, .ref a_mho, .ref a_mih, .ref h_far])), (h_one, .inl (cI, 24, .inl one)), (h_oth, .inl (cI, 24, .inl oth)), (h_far, .inl (cI, 16, .inl far))] H := hP
    have hD : va_D A [(h_m, .inr (5, [.int y3, .int nd, .int sw, .int so, .int lo, .ref h_one, .ref h_oth, .ref a_isb, .int cl, .int ea, .int on, .int lg, .ref a_log, .int wr, .ref a_seq, .int pe, .ref a_mho, .ref a_mih, .ref h_far])), (h_one, .inl (cI, 24, .inl one)), (h_oth, .inl (cI, 24, .inl oth)), (h_far, .inl (cI, 16, .inl far))] := hD
    refine lv_aload_n hx hb dX5_toLive_17 rfl (lv_at hl 0 rfl) ?_
    refine va_get (D := D) (ci := 5) (v := .int y3) (C := RX5) (T := TX5) (N := 19) hx hb hts inX5_toLive_X5 hown hK hP 0 rfl rfl 0 (by decide) (hts _ lkX5_toLive_0) (fun _ h9 => h9) rfl dX5_toLive_18 ?_
    refine lv_if_le (tgt := 26) hx hb dX5_toLive_21 (by decide) (fun c6 => ?_) (fun c6 => ?_)
    · have h := it_t h c6
      refine lv_aload_n hx hb dX5_toLive_26 rfl (lv_at hl 0 rfl) ?_
      refine lv_iload_n hx hb dX5_toLive_27 rfl (lv_at hl 1 rfl) ?_
      obtain ⟨w8, hq7, h⟩ := bd1_e h
      refine zz_mV (As := [.int p0]) (wr := []) (w1 := [(h_m, .inr (5, [.int y3, .int nd, .int sw, .int so, .int lo, .ref h_one, .ref h_oth, .ref a_isb, .int cl, .int ea, .int on, .int lg, .ref a_log, .int wr, .ref a_seq, .int pe, .ref a_mho, .ref a_mih, .ref h_far])), (h_one, .inl (cI, 24, .inl one)), (h_oth, .inl (cI, 24, .inl oth)), (h_far, .inl (cI, 16, .inl w8))]) (wt' := [(h_m, .inr (5, [.int y3, .int nd, .int sw, .int so, .int lo, .ref h_one, .ref h_oth, .ref a_isb, .int cl, .int ea, .int on, .int lg, .ref a_log, .int wr, .ref a_seq, .int pe, .ref a_mho, .ref a_mih, .ref h_far])), (h_one, .inl (cI, 24, .inl one)), (h_oth, .inl (cI, 24, .inl oth)), (h_far, .inl (cI, 16, .inl w8))]) (wc := [(h_m, .inr (5, [.int y3, .int nd, .int sw, .int so, .int lo, .ref h_one, .ref h_oth, .ref a_isb, .int cl, .int ea, .int on, .int lg, .ref a_log, .int wr, .ref a_seq, .int pe, .ref a_mho, .ref a_mih, .ref h_far])), (h_one, .inl (cI, 24, .inl one)), (h_oth, .inl (cI, 24, .inl oth)), (h_far, .inl (cI, 16, .inl far))]) (rv := none) ⟨hx, hb, hml, hown, hts⟩ (kX5_laysFar l D cI cZ cL H.size h_m a_isb a_log a_seq a_mho a_mih h_one h_oth h_far y3 nd sw so lo cl ea on lg wr pe one oth far p0 N hq7) (cwV 1 hts gX5_toLive_X5_laysFar rfl rfl rfl (by decide +kernel) ⟨Nat.le_of_ble_eq_true rfl, Nat.le_of_ble_eq_true rfl⟩) hP hD hS hA hKK [0, 1, 2, 3] [] [0, 1, 2, 3] rfl rfl (by decide) (by decide) rfl (by decide) (by decide) (va_recv hK hP (ci := 5) (q0 := 0) rfl rfl) rfl hl.1 rfl (Nat.le_of_ble_eq_true rfl) dX5_toLive_28 ⟨Nat.le_of_ble_eq_true rfl, Nat.le_of_ble_eq_true rfl⟩ (fun H locs hP hD hS hz9 => ?_)
      show W p l e _ s m _ below meth c H locs _ _ QQ (F0 m 31 ls [])
      refine lv_sipush (v := 1000) hx hb dX5_toLive_31 (by decide) ?_
      refine lv_istore_n (lv' := [(2, .int 1000), (0, .ref h_m), (1, .int p0)]) hx hb dX5_toLive_34 rfl hl (by decide) rfl (fun ls hl => ?_)
      refine lv_iconst (v := 0) hx hb dX5_toLive_35 (by decide) ?_
      refine lv_istore_n (lv' := [(3, .int 0), (2, .int 1000), (0, .ref h_m), (1, .int p0)]) hx hb dX5_toLive_36 rfl hl (by decide) rfl (fun ls hl => ?_)
      refine it2_e (fun (x9 : Int32) (x10 : Int32) => ∀ (H : Heap) (locs : List Loc) (ls : Array Slot), va_P D vwCl [(h_m, .inr (5, [.int y3, .int nd, .int sw, .int so, .int lo, .ref h_one, .ref h_oth, .ref a_isb, .int cl, .int ea, .int on, .int lg, .ref a_log, .int wr, .ref a_seq, .int pe, .ref a_mho, .ref a_mih, .ref h_far])), (h_one, .inl (cI, 24, .inl one)), (h_oth, .inl (cI, 24, .inl oth)), (h_far, .inl (cI, 16, .inl w8))] H → va_D A [(h_m, .inr (5, [.int y3, .int nd, .int sw, .int so, .int lo, .ref h_one, .ref h_oth, .ref a_isb, .int cl, .int ea, .int on, .int lg, .ref a_log, .int wr, .ref a_seq, .int pe, .ref a_mho, .ref a_mih, .ref h_far])), (h_one, .inl (cI, 24, .inl one)), (h_oth, .inl (cI, 24, .inl oth)), (h_far, .inl (cI, 16, .inl w8))] → va_S A s.heap H locs → lv_has ls 4 [(3, .int x9), (2, .int x10), (0, .ref h_m), (1, .int p0)] → W p l e (headSpec wsX5_toLive rmX5_toLive).room s m (([.ref h_m, .int p0] : List Value).toArray) below meth c H locs 0 0 QQ (F0 m 37 ls [])) (fun g37_11 hg37_12 x9 x10 h H locs ls hP hD hS hl => ?_) N 0 1000 h H locs ls hP hD hS (lv_sub hl [0, 1, 2, 3] rfl)
      refine lv_iload_n hx hb dX5_toLive_37 rfl (lv_at hl 0 rfl) ?_
      refine lv_aload_n hx hb dX5_toLive_38 rfl (lv_at hl 2 rfl) ?_
      refine va_get (D := D) (ci := 5) (v := .int nd) (C := RX5) (T := TX5) (N := 19) hx hb hts inX5_toLive_X5 hown hK hP 0 rfl rfl 1 (by decide) (hts _ lkX5_toLive_1) (fun _ h9 => h9) rfl dX5_toLive_39 ?_
      refine lv_icmp_ge (tgt := 83) hx hb dX5_toLive_42 (by decide) (fun c13 => ?_) (fun c13 => ?_)
      · have h := it_t h c13
        refine lv_aload_n hx hb dX5_toLive_83 rfl (lv_at hl 2 rfl) ?_
        refine lv_iload_n hx hb dX5_toLive_84 rfl (lv_at hl 1 rfl) ?_
        refine lv_sipush (v := 1000) hx hb dX5_toLive_85 (by decide) ?_
        refine jn1_e (fun (y14 : Int32) => ∀ (H : Heap) (locs : List Loc) (ls : Array Slot), va_P D vwCl [(h_m, .inr (5, [.int y3, .int nd, .int sw, .int so, .int lo, .ref h_one, .ref h_oth, .ref a_isb, .int cl, .int ea, .int on, .int lg, .ref a_log, .int wr, .ref a_seq, .int pe, .ref a_mho, .ref a_mih, .ref h_far])), (h_one, .inl (cI, 24, .inl one)), (h_oth, .inl (cI, 24, .inl oth)), (h_far, .inl (cI, 16, .inl w8))] H → va_D A [(h_m, .inr (5, [.int y3, .int nd, .int sw, .int so, .int lo, .ref h_one, .ref h_oth, .ref a_isb, .int cl, .int ea, .int on, .int lg, .ref a_log, .int wr, .ref a_seq, .int pe, .ref a_mho, .ref a_mih, .ref h_far])), (h_one, .inl (cI, 24, .inl one)), (h_oth, .inl (cI, 24, .inl oth)), (h_far, .inl (cI, 16, .inl w8))] → va_S A s.heap H locs → lv_has ls 4 [(3, .int x9), (2, .int x10), (0, .ref h_m), (1, .int p0)] → W p l e (headSpec wsX5_toLive rmX5_toLive).room s m (([.ref h_m, .int p0] : List Value).toArray) below meth c H locs 0 0 QQ (F0 m 96 ls [.int y14, .ref h_m])) h (fun y14 h H locs ls hP hD hS hl => ?_) (fun g96_15 hg96_16 h => ?_)
        · refine va_put (D := D) (ci := 5) (v := .int y14) (ty := .int) (C := RX5) (T := TX5) (N := 19) hx hb hts inX5_toLive_X5 tyX5 tyX5_ok nmX5 hown hK hP hD hS 0 rfl rfl 0 (by decide) (hts _ lkX5_toLive_0) (fun _ h9 => h9) rfl (by decide +kernel) rfl rfl (Nat.le_of_ble_eq_true rfl) dX5_toLive_96 (fun H locs hP hD hS => ?_)
          have hP : va_P D vwCl [(h_m, .inr (5, [.int y14, .int nd, .int sw, .int so, .int lo, .ref h_one, .ref h_oth, .ref a_isb, .int cl, .int ea, .int on, .int lg, .ref a_log, .int wr, .ref a_seq, .int pe, .ref a_mho, .ref a_mih, .ref h_far])), (h_one, .inl (cI, 24, .inl one)), (h_oth, .inl (cI, 24, .inl oth)), (h_far, .inl (cI, 16, .inl w8))] H := hP
          have hD : va_D A [(h_m, .inr (5, [.int y14, .int nd, .int sw, .int so, .int lo, .ref h_one, .ref h_oth, .ref a_isb, .int cl, .int ea, .int on, .int lg, .ref a_log, .int wr, .ref a_seq, .int pe, .ref a_mho, .ref a_mih, .ref h_far])), (h_one, .inl (cI, 24, .inl one)), (h_oth, .inl (cI, 24, .inl oth)), (h_far, .inl (cI, 16, .inl w8))] := hD
          refine lv_aload_n hx hb dX5_toLive_99 rfl (lv_at hl 2 rfl) ?_
          refine va_get (D := D) (ci := 5) (v := .int y14) (C := RX5) (T := TX5) (N := 19) hx hb hts inX5_toLive_X5 hown hK hP 0 rfl rfl 0 (by decide) (hts _ lkX5_toLive_0) (fun _ h9 => h9) rfl dX5_toLive_100 ?_
          refine lv_if_le (tgt := 110) hx hb dX5_toLive_103 (by decide) (fun c17 => ?_) (fun c17 => ?_)
          · have h := it_t h c17
            refine lv_iload_n hx hb dX5_toLive_110 rfl (lv_at hl 1 rfl) ?_
            cases h
            rw [hQQ]
            exact W.iret hx hb hr (fun t ht hW => ⟨rfl, by rw [ht]; exact hP, hD, hS.F ht⟩) hS.2.2 dX5_toLive_111
          · have h := it_f h c17
            refine lv_iconst (v := 0) hx hb dX5_toLive_106 (by decide) ?_
            refine lv_goto (tgt := 111) hx hb dX5_toLive_107 (by decide) ?_
            cases h
            rw [hQQ]
            exact W.iret hx hb hr (fun t ht hW => ⟨rfl, by rw [ht]; exact hP, hD, hS.F ht⟩) hS.2.2 dX5_toLive_111
        · refine lv_icmp_ne (tgt := 95) hx hb dX5_toLive_88 (by decide) (fun c18 => ?_) (fun c18 => ?_)
          · have h := it_f h c18
            refine lv_iconst (v := 0) hx hb dX5_toLive_95 (by decide) ?_
            exact hg96_16 0 h H locs ls hP hD hS (lv_sub hl [0, 1, 2, 3] rfl)
          · have h := it_t h c18
            refine lv_iconst (v := 2) hx hb dX5_toLive_91 (by decide) ?_
            refine lv_goto (tgt := 96) hx hb dX5_toLive_92 (by decide) ?_
            exact hg96_16 2 h H locs ls hP hD hS (lv_sub hl [0, 1, 2, 3] rfl)
      · have h := it_f h c13
        refine lv_aload_n hx hb dX5_toLive_45 rfl (lv_at hl 2 rfl) ?_
        refine va_get (D := D) (ci := 5) (v := .int on) (C := RX5) (T := TX5) (N := 19) hx hb hts inX5_toLive_X5 hown hK hP 0 rfl rfl 10 (by decide) (hts _ lkX5_toLive_2) (fun _ h9 => h9) rfl dX5_toLive_46 ?_
        refine lv_iload_n hx hb dX5_toLive_49 rfl (lv_at hl 0 rfl) ?_
        obtain ⟨v19, hq20, h⟩ := bd1_e h
        refine zz_cS (As := [.int on, .int x9]) ⟨hx, hb, hml, hown, hts⟩ (kX5_has l D cI cZ cL on x9 N hq20) (va_cwS 2 hts gX5_toLive_X5_has rfl rfl rfl (by decide +kernel) ⟨Nat.le_of_ble_eq_true rfl, Nat.le_of_ble_eq_true rfl⟩) (hP.sub (ws' := []) [] rfl) hKK rfl hl.1 rfl (Nat.le_of_ble_eq_true rfl) dX5_toLive_50 ⟨Nat.le_of_ble_eq_true rfl, Nat.le_of_ble_eq_true rfl⟩ ?_
        refine lv_if_eq (tgt := 75) hx hb dX5_toLive_53 (by decide) (fun c21 => ?_) (fun c21 => ?_)
        · have h := it_t h c21
          refine lv_iload_n hx hb dX5_toLive_75 rfl (lv_at hl 1 rfl) ?_
          refine lv_istore_n (lv' := [(2, .int x10), (3, .int x9), (0, .ref h_m), (1, .int p0)]) hx hb dX5_toLive_76 rfl hl (by decide) rfl (fun ls hl => ?_)
          refine lv_iinc (v := x9 + 1) (lv' := [(3, .int (x9 + 1)), (2, .int x10), (0, .ref h_m), (1, .int p0)]) hx hb dX5_toLive_77 hl (k := 1) rfl rfl (by decide) rfl (fun ls hl => ?_)
          refine lv_goto (tgt := 37) hx hb dX5_toLive_80 (by decide) ?_
          exact hg37_12 (x9 + 1) x10 h H locs ls hP hD hS (lv_sub hl [0, 1, 2, 3] rfl)
        · have h := it_f h c21
          refine lv_aload_n hx hb dX5_toLive_56 rfl (lv_at hl 2 rfl) ?_
          refine va_get (D := D) (ci := 5) (v := .ref h_far) (C := RX5) (T := TX5) (N := 19) hx hb hts inX5_toLive_X5 hown hK hP 0 rfl rfl 18 (by decide) (hts _ lkX5_toLive_3) (fun _ h9 => h9) rfl dX5_toLive_57 ?_
          refine lv_iload_n hx hb dX5_toLive_60 rfl (lv_at hl 0 rfl) ?_
          obtain ⟨hi22, h⟩ := gin_e h
          refine va_iald hx hb hK hP 3 0 rfl rfl hi22 dX5_toLive_61 ?_
          refine lv_iload_n hx hb dX5_toLive_62 rfl (lv_at hl 1 rfl) ?_
          refine lv_icmp_ge (tgt := 75) hx hb dX5_toLive_63 (by decide) (fun c23 => ?_) (fun c23 => ?_)
          · have h := it_t h c23
            refine lv_iload_n hx hb dX5_toLive_75 rfl (lv_at hl 1 rfl) ?_
            refine lv_istore_n (lv' := [(2, .int x10), (3, .int x9), (0, .ref h_m), (1, .int p0)]) hx hb dX5_toLive_76 rfl hl (by decide) rfl (fun ls hl => ?_)
            refine lv_iinc (v := x9 + 1) (lv' := [(3, .int (x9 + 1)), (2, .int x10), (0, .ref h_m), (1, .int p0)]) hx hb dX5_toLive_77 hl (k := 1) rfl rfl (by decide) rfl (fun ls hl => ?_)
            refine lv_goto (tgt := 37) hx hb dX5_toLive_80 (by decide) ?_
            exact hg37_12 (x9 + 1) x10 h H locs ls hP hD hS (lv_sub hl [0, 1, 2, 3] rfl)
          · have h := it_f h c23
            refine lv_aload_n hx hb dX5_toLive_66 rfl (lv_at hl 2 rfl) ?_
            refine va_get (D := D) (ci := 5) (v := .ref h_far) (C := RX5) (T := TX5) (N := 19) hx hb hts inX5_toLive_X5 hown hK hP 0 rfl rfl 18 (by decide) (hts _ lkX5_toLive_3) (fun _ h9 => h9) rfl dX5_toLive_67 ?_
            refine lv_iload_n hx hb dX5_toLive_70 rfl (lv_at hl 0 rfl) ?_
            obtain ⟨hi24, h⟩ := gin_e h
            refine va_iald hx hb hK hP 3 0 rfl rfl hi24 dX5_toLive_71 ?_
            refine lv_goto (tgt := 76) hx hb dX5_toLive_72 (by decide) ?_
            refine lv_istore_n (lv' := [(2, .int (w8 x9.toNatClampNeg)), (3, .int x9), (0, .ref h_m), (1, .int p0)]) hx hb dX5_toLive_76 rfl hl (by decide) rfl (fun ls hl => ?_)
            refine lv_iinc (v := x9 + 1) (lv' := [(3, .int (x9 + 1)), (2, .int (w8 x9.toNatClampNeg)), (0, .ref h_m), (1, .int p0)]) hx hb dX5_toLive_77 hl (k := 1) rfl rfl (by decide) rfl (fun ls hl => ?_)
            refine lv_goto (tgt := 37) hx hb dX5_toLive_80 (by decide) ?_
            exact hg37_12 (x9 + 1) (w8 x9.toNatClampNeg) h H locs ls hP hD hS (lv_sub hl [0, 1, 2, 3] rfl)
    · have h := it_f h c6
      refine lv_iconst (v := 0) hx hb dX5_toLive_24 (by decide) ?_
      cases h
      rw [hQQ]
      exact W.iret hx hb hr (fun t ht hW => ⟨rfl, by rw [ht]; exact hP, hD, hS.F ht⟩) hS.2.2 dX5_toLive_25
  · refine lv_if_eq (tgt := 13) hx hb dX5_toLive_6 (by decide) (fun c25 => ?_) (fun c25 => ?_)
    · have h := it_t h c25
      refine lv_iconst (v := 1) hx hb dX5_toLive_13 (by decide) ?_
      exact hg14_5 1 h H locs ls hP hD hS (lv_sub hl [0, 1] rfl)
    · have h := it_f h c25
      refine lv_iconst (v := 0) hx hb dX5_toLive_9 (by decide) ?_
      refine lv_goto (tgt := 14) hx hb dX5_toLive_10 (by decide) ?_
      exact hg14_5 0 h H locs ls hP hD hS (lv_sub hl [0, 1] rfl)

def fX5_addNode (N : Nat) (th : Int32) (nd : Int32) (sw : Int32) (so : Int32) (lo : Int32) (cl : Int32) (ea : Int32) (on : Int32) (lg : Int32) (wr : Int32) (pe : Int32) (p0 : Int32) (p1 : Int32) : Option ((Int32) × (Int32) × (Int32) × (Int32) × (Int32)) :=
  jn1 (fun (y1 : Int32) => (if y1 ≤ 0 then jn1 (fun (y5 : Int32) => jn1 (fun (y8 : Int32) => some ((nd + 1) - 1, y1, nd + 1, so ||| y5, lo ||| y8)) (fun g69_9 => (if p1 = 0 then g69_9 0 else g69_9 ((1 : Int32) <<< (nd &&& 31))))) (fun g46_6 => (if p0 = 0 then g46_6 0 else g46_6 ((1 : Int32) <<< (nd &&& 31)))) else some (0, y1, nd, so, lo))) (fun g15_2 => (if nd = 16 then g15_2 1 else g15_2 0))
set_option maxRecDepth 100000 in
theorem inX5_addNode_X5 : ∀ w ∈ wsX50, w ∈ wsX5_addNode := by decide +kernel
set_option maxRecDepth 100000 in
theorem lkX5_addNode_0 : (.fieldLink RX5 39 "SwitchlogModel" "nodes" "I" : Cond) ∈ wsX5_addNode := by decide +kernel
set_option maxRecDepth 100000 in
theorem lkX5_addNode_1 : (.fieldLink RX5 35 "SwitchlogModel" "thrown" "I" : Cond) ∈ wsX5_addNode := by decide +kernel
set_option maxRecDepth 100000 in
theorem lkX5_addNode_2 : (.fieldLink RX5 49 "SwitchlogModel" "sources" "I" : Cond) ∈ wsX5_addNode := by decide +kernel
set_option maxRecDepth 100000 in
theorem lkX5_addNode_3 : (.fieldLink RX5 52 "SwitchlogModel" "loads" "I" : Cond) ∈ wsX5_addNode := by decide +kernel
abbrev rmX5_addNode : Room := { frames := 0, cells := 0, slots := 0, locals := 0 }
set_option maxHeartbeats 4000000 in
set_option maxRecDepth 100000 in
theorem kX5_addNode (l : Launch) (D : va_G) (cI cZ cL : ClassId) (sz0 : Nat) (h_m a_one a_oth a_isb a_log a_seq a_mho a_mih a_far : Nat) (th : Int32) (nd : Int32) (sw : Int32) (so : Int32) (lo : Int32) (cl : Int32) (ea : Int32) (on : Int32) (lg : Int32) (wr : Int32) (pe : Int32) (p0 : Int32) (p1 : Int32) (N : Nat) {r : Int32} {r_0 : Int32} {r_1 : Int32} {r_2 : Int32} {r_3 : Int32} (h : fX5_addNode N th nd sw so lo cl ea on lg wr pe p0 p1 = some (r, r_0, r_1, r_2, r_3)) : Met l yX5_addNode wsX5_addNode rmX5_addNode (PM D cI cZ cL [.ref h_m, .int p0, .int p1] [(h_m, .inr (5, [.int th, .int nd, .int sw, .int so, .int lo, .ref a_one, .ref a_oth, .ref a_isb, .int cl, .int ea, .int on, .int lg, .ref a_log, .int wr, .ref a_seq, .int pe, .ref a_mho, .ref a_mih, .ref a_far]))] sz0) (QM D (some (.int r)) (va_A [(h_m, .inr (5, [.int th, .int nd, .int sw, .int so, .int lo, .ref a_one, .ref a_oth, .ref a_isb, .int cl, .int ea, .int on, .int lg, .ref a_log, .int wr, .ref a_seq, .int pe, .ref a_mho, .ref a_mih, .ref a_far]))] sz0) [(h_m, .inr (5, [.int r_0, .int r_1, .int sw, .int r_2, .int r_3, .ref a_one, .ref a_oth, .ref a_isb, .int cl, .int ea, .int on, .int lg, .ref a_log, .int wr, .ref a_seq, .int pe, .ref a_mho, .ref a_mih, .ref a_far]))]) 0 0 (va_A [(h_m, .inr (5, [.int th, .int nd, .int sw, .int so, .int lo, .ref a_one, .ref a_oth, .ref a_isb, .int cl, .int ea, .int on, .int lg, .ref a_log, .int wr, .ref a_seq, .int pe, .ref a_mho, .ref a_mih, .ref a_far]))] sz0) := by
  refine Met.ofW (cc := cX5_addNode) (maxL := 3) (ret := (some .int)) (by decide) rfl ?_
  intro p e s m args below meth c s₁ B hml hv
  obtain ⟨rfl, hsz, hP, hKK, hD0⟩ := hv
  have hK := hKK.1
  have hx := B.exec
  have hb := B.bytes
  have hr := B.returns
  have hts := atoms_spec (ws := wsX5_addNode) B.pre
  have hown : s.vm.findClass RX5 = some m.cls := findClass_of_methodNamed B.named
  have hlocks := B.notSynchronized
  subst hsz
  have hD := hD0.self (sz := s.heap.size)
  generalize hAe : va_A [(h_m, .inr (5, [.int th, .int nd, .int sw, .int so, .int lo, .ref a_one, .ref a_oth, .ref a_isb, .int cl, .int ea, .int on, .int lg, .ref a_log, .int wr, .ref a_seq, .int pe, .ref a_mho, .ref a_mih, .ref a_far]))] s.heap.size = A at hD ⊢
  have hA : ∀ q : Nat, s.heap.size ≤ q → A q := fun q h => by rw [← hAe]; exact Or.inr h
  have hS : va_S A s.heap s.heap [] := va_S.rf
  have hl := lv_entry ([.ref h_m, .int p0, .int p1]) (n := 3) (Nat.le_of_ble_eq_true rfl)
  rw [lg_entry_eq]
  generalize (lg_sl ([.ref h_m, .int p0, .int p1]) ++ List.replicate (3 - (lg_sl ([.ref h_m, .int p0, .int p1])).length) Slot.unset).toArray = ls at hl ⊢
  have hl : lv_has ls 3 [(0, .ref h_m), (1, .int p0), (2, .int p1)] := hl
  obtain ⟨QQ, hQQ⟩ : ∃ Z, Z = MQ below (QM D (some (.int r)) A [(h_m, .inr (5, [.int r_0, .int r_1, .int sw, .int r_2, .int r_3, .ref a_one, .ref a_oth, .ref a_isb, .int cl, .int ea, .int on, .int lg, .ref a_log, .int wr, .ref a_seq, .int pe, .ref a_mho, .ref a_mih, .ref a_far]))]) ([.ref h_m, .int p0, .int p1] : List Value).toArray s 0 0 A := ⟨_, rfl⟩
  rw [← hQQ]
  obtain ⟨H, locs, hHe, hLe⟩ : ∃ (H : Heap) (locs : List Loc), H = s.heap ∧ locs = [] := ⟨_, _, rfl, rfl⟩
  have hP : va_P D vwCl [(h_m, .inr (5, [.int th, .int nd, .int sw, .int so, .int lo, .ref a_one, .ref a_oth, .ref a_isb, .int cl, .int ea, .int on, .int lg, .ref a_log, .int wr, .ref a_seq, .int pe, .ref a_mho, .ref a_mih, .ref a_far]))] H := by rw [hHe]; exact hP
  have hS : va_S A s.heap H locs := by rw [hHe, hLe]; exact hS
  have hW0 : ∀ QQ : State → Prop, W p l e (headSpec wsX5_addNode rmX5_addNode).room s m (([.ref h_m, .int p0, .int p1] : List Value).toArray) below meth c H locs 0 0 QQ (F0 m 0 ls []) → W p l e (headSpec wsX5_addNode rmX5_addNode).room s m (([.ref h_m, .int p0, .int p1] : List Value).toArray) below meth c s.heap [] 0 0 QQ (F0 m 0 ls []) := by rw [hHe, hLe]; exact fun _ h => h
  refine hW0 _ ?_
  clear hW0
  unfold fX5_addNode at h
  refine lv_aload_n hx hb dX5_addNode_0 rfl (lv_at hl 0 rfl) ?_
  refine lv_aload_n hx hb dX5_addNode_1 rfl (lv_at hl 0 rfl) ?_
  refine va_get (D := D) (ci := 5) (v := .int nd) (C := RX5) (T := TX5) (N := 19) hx hb hts inX5_addNode_X5 hown hK hP 0 rfl rfl 1 (by decide) (hts _ lkX5_addNode_0) (fun _ h9 => h9) rfl dX5_addNode_2 ?_
  refine lv_bipush (v := 16) hx hb dX5_addNode_5 (by decide) ?_
  refine jn1_e (fun (y1 : Int32) => ∀ (H : Heap) (locs : List Loc) (ls : Array Slot), va_P D vwCl [(h_m, .inr (5, [.int th, .int nd, .int sw, .int so, .int lo, .ref a_one, .ref a_oth, .ref a_isb, .int cl, .int ea, .int on, .int lg, .ref a_log, .int wr, .ref a_seq, .int pe, .ref a_mho, .ref a_mih, .ref a_far]))] H → va_D A [(h_m, .inr (5, [.int th, .int nd, .int sw, .int so, .int lo, .ref a_one, .ref a_oth, .ref a_isb, .int cl, .int ea, .int on, .int lg, .ref a_log, .int wr, .ref a_seq, .int pe, .ref a_mho, .ref a_mih, .ref a_far]))] → va_S A s.heap H locs → lv_has ls 3 [(0, .ref h_m), (1, .int p0), (2, .int p1)] → W p l e (headSpec wsX5_addNode rmX5_addNode).room s m (([.ref h_m, .int p0, .int p1] : List Value).toArray) below meth c H locs 0 0 QQ (F0 m 15 ls [.int y1, .ref h_m])) h (fun y1 h H locs ls hP hD hS hl => ?_) (fun g15_2 hg15_3 h => ?_)
  · refine va_put (D := D) (ci := 5) (v := .int y1) (ty := .int) (C := RX5) (T := TX5) (N := 19) hx hb hts inX5_addNode_X5 tyX5 tyX5_ok nmX5 hown hK hP hD hS 0 rfl rfl 0 (by decide) (hts _ lkX5_addNode_1) (fun _ h9 => h9) rfl (by decide +kernel) rfl rfl (Nat.le_of_ble_eq_true rfl) dX5_addNode_15 (fun H locs hP hD hS => ?_)
    have hP : va_P D vwCl [(h_m, .inr (5, [.int y1, .int nd, .int sw, .int so, .int lo, .ref a_one, .ref a_oth, .ref a_isb, .int cl, .int ea, .int on, .int lg, .ref a_log, .int wr, .ref a_seq, .int pe, .ref a_mho, .ref a_mih, .ref a_far]))] H := hP
    have hD : va_D A [(h_m, .inr (5, [.int y1, .int nd, .int sw, .int so, .int lo, .ref a_one, .ref a_oth, .ref a_isb, .int cl, .int ea, .int on, .int lg, .ref a_log, .int wr, .ref a_seq, .int pe, .ref a_mho, .ref a_mih, .ref a_far]))] := hD
    refine lv_aload_n hx hb dX5_addNode_18 rfl (lv_at hl 0 rfl) ?_
    refine va_get (D := D) (ci := 5) (v := .int y1) (C := RX5) (T := TX5) (N := 19) hx hb hts inX5_addNode_X5 hown hK hP 0 rfl rfl 0 (by decide) (hts _ lkX5_addNode_1) (fun _ h9 => h9) rfl dX5_addNode_19 ?_
    refine lv_if_le (tgt := 27) hx hb dX5_addNode_22 (by decide) (fun c4 => ?_) (fun c4 => ?_)
    · have h := it_t h c4
      refine lv_aload_n hx hb dX5_addNode_27 rfl (lv_at hl 0 rfl) ?_
      refine lv_dup hx hb dX5_addNode_28 rfl ?_
      refine va_get (D := D) (ci := 5) (v := .int so) (C := RX5) (T := TX5) (N := 19) hx hb hts inX5_addNode_X5 hown hK hP 0 rfl rfl 3 (by decide) (hts _ lkX5_addNode_2) (fun _ h9 => h9) rfl dX5_addNode_29 ?_
      refine lv_iload_n hx hb dX5_addNode_32 rfl (lv_at hl 1 rfl) ?_
      refine jn1_e (fun (y5 : Int32) => ∀ (H : Heap) (locs : List Loc) (ls : Array Slot), va_P D vwCl [(h_m, .inr (5, [.int y1, .int nd, .int sw, .int so, .int lo, .ref a_one, .ref a_oth, .ref a_isb, .int cl, .int ea, .int on, .int lg, .ref a_log, .int wr, .ref a_seq, .int pe, .ref a_mho, .ref a_mih, .ref a_far]))] H → va_D A [(h_m, .inr (5, [.int y1, .int nd, .int sw, .int so, .int lo, .ref a_one, .ref a_oth, .ref a_isb, .int cl, .int ea, .int on, .int lg, .ref a_log, .int wr, .ref a_seq, .int pe, .ref a_mho, .ref a_mih, .ref a_far]))] → va_S A s.heap H locs → lv_has ls 3 [(0, .ref h_m), (1, .int p0), (2, .int p1)] → W p l e (headSpec wsX5_addNode rmX5_addNode).room s m (([.ref h_m, .int p0, .int p1] : List Value).toArray) below meth c H locs 0 0 QQ (F0 m 46 ls [.int y5, .int so, .ref h_m])) h (fun y5 h H locs ls hP hD hS hl => ?_) (fun g46_6 hg46_7 h => ?_)
      · refine lv_ior hx hb dX5_addNode_46 ?_
        refine va_put (D := D) (ci := 5) (v := .int (so ||| y5)) (ty := .int) (C := RX5) (T := TX5) (N := 19) hx hb hts inX5_addNode_X5 tyX5 tyX5_ok nmX5 hown hK hP hD hS 0 rfl rfl 3 (by decide) (hts _ lkX5_addNode_2) (fun _ h9 => h9) rfl (by decide +kernel) rfl rfl (Nat.le_of_ble_eq_true rfl) dX5_addNode_47 (fun H locs hP hD hS => ?_)
        have hP : va_P D vwCl [(h_m, .inr (5, [.int y1, .int nd, .int sw, .int (so ||| y5), .int lo, .ref a_one, .ref a_oth, .ref a_isb, .int cl, .int ea, .int on, .int lg, .ref a_log, .int wr, .ref a_seq, .int pe, .ref a_mho, .ref a_mih, .ref a_far]))] H := hP
        have hD : va_D A [(h_m, .inr (5, [.int y1, .int nd, .int sw, .int (so ||| y5), .int lo, .ref a_one, .ref a_oth, .ref a_isb, .int cl, .int ea, .int on, .int lg, .ref a_log, .int wr, .ref a_seq, .int pe, .ref a_mho, .ref a_mih, .ref a_far]))] := hD
        refine lv_aload_n hx hb dX5_addNode_50 rfl (lv_at hl 0 rfl) ?_
        refine lv_dup hx hb dX5_addNode_51 rfl ?_
        refine va_get (D := D) (ci := 5) (v := .int lo) (C := RX5) (T := TX5) (N := 19) hx hb hts inX5_addNode_X5 hown hK hP 0 rfl rfl 4 (by decide) (hts _ lkX5_addNode_3) (fun _ h9 => h9) rfl dX5_addNode_52 ?_
        refine lv_iload_n hx hb dX5_addNode_55 rfl (lv_at hl 2 rfl) ?_
        refine jn1_e (fun (y8 : Int32) => ∀ (H : Heap) (locs : List Loc) (ls : Array Slot), va_P D vwCl [(h_m, .inr (5, [.int y1, .int nd, .int sw, .int (so ||| y5), .int lo, .ref a_one, .ref a_oth, .ref a_isb, .int cl, .int ea, .int on, .int lg, .ref a_log, .int wr, .ref a_seq, .int pe, .ref a_mho, .ref a_mih, .ref a_far]))] H → va_D A [(h_m, .inr (5, [.int y1, .int nd, .int sw, .int (so ||| y5), .int lo, .ref a_one, .ref a_oth, .ref a_isb, .int cl, .int ea, .int on, .int lg, .ref a_log, .int wr, .ref a_seq, .int pe, .ref a_mho, .ref a_mih, .ref a_far]))] → va_S A s.heap H locs → lv_has ls 3 [(0, .ref h_m), (1, .int p0), (2, .int p1)] → W p l e (headSpec wsX5_addNode rmX5_addNode).room s m (([.ref h_m, .int p0, .int p1] : List Value).toArray) below meth c H locs 0 0 QQ (F0 m 69 ls [.int y8, .int lo, .ref h_m])) h (fun y8 h H locs ls hP hD hS hl => ?_) (fun g69_9 hg69_10 h => ?_)
        · refine lv_ior hx hb dX5_addNode_69 ?_
          refine va_put (D := D) (ci := 5) (v := .int (lo ||| y8)) (ty := .int) (C := RX5) (T := TX5) (N := 19) hx hb hts inX5_addNode_X5 tyX5 tyX5_ok nmX5 hown hK hP hD hS 0 rfl rfl 4 (by decide) (hts _ lkX5_addNode_3) (fun _ h9 => h9) rfl (by decide +kernel) rfl rfl (Nat.le_of_ble_eq_true rfl) dX5_addNode_70 (fun H locs hP hD hS => ?_)
          have hP : va_P D vwCl [(h_m, .inr (5, [.int y1, .int nd, .int sw, .int (so ||| y5), .int (lo ||| y8), .ref a_one, .ref a_oth, .ref a_isb, .int cl, .int ea, .int on, .int lg, .ref a_log, .int wr, .ref a_seq, .int pe, .ref a_mho, .ref a_mih, .ref a_far]))] H := hP
          have hD : va_D A [(h_m, .inr (5, [.int y1, .int nd, .int sw, .int (so ||| y5), .int (lo ||| y8), .ref a_one, .ref a_oth, .ref a_isb, .int cl, .int ea, .int on, .int lg, .ref a_log, .int wr, .ref a_seq, .int pe, .ref a_mho, .ref a_mih, .ref a_far]))] := hD
          refine lv_aload_n hx hb dX5_addNode_73 rfl (lv_at hl 0 rfl) ?_
          refine lv_dup hx hb dX5_addNode_74 rfl ?_
          refine va_get (D := D) (ci := 5) (v := .int nd) (C := RX5) (T := TX5) (N := 19) hx hb hts inX5_addNode_X5 hown hK hP 0 rfl rfl 1 (by decide) (hts _ lkX5_addNode_0) (fun _ h9 => h9) rfl dX5_addNode_75 ?_
          refine lv_iconst (v := 1) hx hb dX5_addNode_78 (by decide) ?_
          refine lv_iadd hx hb dX5_addNode_79 ?_
          refine va_put (D := D) (ci := 5) (v := .int (nd + 1)) (ty := .int) (C := RX5) (T := TX5) (N := 19) hx hb hts inX5_addNode_X5 tyX5 tyX5_ok nmX5 hown hK hP hD hS 0 rfl rfl 1 (by decide) (hts _ lkX5_addNode_0) (fun _ h9 => h9) rfl (by decide +kernel) rfl rfl (Nat.le_of_ble_eq_true rfl) dX5_addNode_80 (fun H locs hP hD hS => ?_)
          have hP : va_P D vwCl [(h_m, .inr (5, [.int y1, .int (nd + 1), .int sw, .int (so ||| y5), .int (lo ||| y8), .ref a_one, .ref a_oth, .ref a_isb, .int cl, .int ea, .int on, .int lg, .ref a_log, .int wr, .ref a_seq, .int pe, .ref a_mho, .ref a_mih, .ref a_far]))] H := hP
          have hD : va_D A [(h_m, .inr (5, [.int y1, .int (nd + 1), .int sw, .int (so ||| y5), .int (lo ||| y8), .ref a_one, .ref a_oth, .ref a_isb, .int cl, .int ea, .int on, .int lg, .ref a_log, .int wr, .ref a_seq, .int pe, .ref a_mho, .ref a_mih, .ref a_far]))] := hD
          refine lv_aload_n hx hb dX5_addNode_83 rfl (lv_at hl 0 rfl) ?_
          refine va_get (D := D) (ci := 5) (v := .int (nd + 1)) (C := RX5) (T := TX5) (N := 19) hx hb hts inX5_addNode_X5 hown hK hP 0 rfl rfl 1 (by decide) (hts _ lkX5_addNode_0) (fun _ h9 => h9) rfl dX5_addNode_84 ?_
          refine lv_iconst (v := 1) hx hb dX5_addNode_87 (by decide) ?_
          refine lv_isub hx hb dX5_addNode_88 ?_
          cases h
          rw [hQQ]
          exact W.iret hx hb hr (fun t ht hW => ⟨rfl, by rw [ht]; exact hP, hD, hS.F ht⟩) hS.2.2 dX5_addNode_89
        · refine lv_if_eq (tgt := 68) hx hb dX5_addNode_56 (by decide) (fun c11 => ?_) (fun c11 => ?_)
          · have h := it_t h c11
            refine lv_iconst (v := 0) hx hb dX5_addNode_68 (by decide) ?_
            exact hg69_10 0 h H locs ls hP hD hS (lv_sub hl [0, 1, 2] rfl)
          · have h := it_f h c11
            refine lv_iconst (v := 1) hx hb dX5_addNode_59 (by decide) ?_
            refine lv_aload_n hx hb dX5_addNode_60 rfl (lv_at hl 0 rfl) ?_
            refine va_get (D := D) (ci := 5) (v := .int nd) (C := RX5) (T := TX5) (N := 19) hx hb hts inX5_addNode_X5 hown hK hP 0 rfl rfl 1 (by decide) (hts _ lkX5_addNode_0) (fun _ h9 => h9) rfl dX5_addNode_61 ?_
            refine lv_ishl hx hb dX5_addNode_64 ?_
            refine lv_goto (tgt := 69) hx hb dX5_addNode_65 (by decide) ?_
            exact hg69_10 ((1 : Int32) <<< (nd &&& 31)) h H locs ls hP hD hS (lv_sub hl [0, 1, 2] rfl)
      · refine lv_if_eq (tgt := 45) hx hb dX5_addNode_33 (by decide) (fun c12 => ?_) (fun c12 => ?_)
        · have h := it_t h c12
          refine lv_iconst (v := 0) hx hb dX5_addNode_45 (by decide) ?_
          exact hg46_7 0 h H locs ls hP hD hS (lv_sub hl [0, 1, 2] rfl)
        · have h := it_f h c12
          refine lv_iconst (v := 1) hx hb dX5_addNode_36 (by decide) ?_
          refine lv_aload_n hx hb dX5_addNode_37 rfl (lv_at hl 0 rfl) ?_
          refine va_get (D := D) (ci := 5) (v := .int nd) (C := RX5) (T := TX5) (N := 19) hx hb hts inX5_addNode_X5 hown hK hP 0 rfl rfl 1 (by decide) (hts _ lkX5_addNode_0) (fun _ h9 => h9) rfl dX5_addNode_38 ?_
          refine lv_ishl hx hb dX5_addNode_41 ?_
          refine lv_goto (tgt := 46) hx hb dX5_addNode_42 (by decide) ?_
          exact hg46_7 ((1 : Int32) <<< (nd &&& 31)) h H locs ls hP hD hS (lv_sub hl [0, 1, 2] rfl)
    · have h := it_f h c4
      refine lv_iconst (v := 0) hx hb dX5_addNode_25 (by decide) ?_
      cases h
      rw [hQQ]
      exact W.iret hx hb hr (fun t ht hW => ⟨rfl, by rw [ht]; exact hP, hD, hS.F ht⟩) hS.2.2 dX5_addNode_26
  · refine lv_icmp_ne (tgt := 14) hx hb dX5_addNode_7 (by decide) (fun c13 => ?_) (fun c13 => ?_)
    · have h := it_f h c13
      refine lv_iconst (v := 0) hx hb dX5_addNode_14 (by decide) ?_
      exact hg15_3 0 h H locs ls hP hD hS (lv_sub hl [0, 1, 2] rfl)
    · have h := it_t h c13
      refine lv_iconst (v := 1) hx hb dX5_addNode_10 (by decide) ?_
      refine lv_goto (tgt := 15) hx hb dX5_addNode_11 (by decide) ?_
      exact hg15_3 1 h H locs ls hP hD hS (lv_sub hl [0, 1, 2] rfl)

def fX5_addSwitch (N : Nat) (th : Int32) (nd : Int32) (sw : Int32) (so : Int32) (lo : Int32) (cl : Int32) (ea : Int32) (on : Int32) (lg : Int32) (wr : Int32) (pe : Int32) (one : Nat → Int32) (oth : Nat → Int32) (isb : Nat → Int32) (p0 : Int32) (p1 : Int32) (p2 : Int32) : Option ((Int32) × (Int32) × (Nat → Int32) × (Nat → Int32) × (Nat → Int32) × (Int32)) :=
  bd1 (fX5_isNode N th nd sw so lo cl ea on lg wr pe p0) (fun v1 => jn1 (fun (y3 : Int32) => (if y3 ≤ 0 then gin sw 24 (gin sw 24 (gin sw 24 (some ((sw + 1) - 1, y3, upd one sw.toNatClampNeg p0, upd oth sw.toNatClampNeg p1, upd isb sw.toNatClampNeg (vp_nar .boolean p2), sw + 1)))) else some (0, y3, one, oth, isb, sw))) (fun g44_4 => (if v1 = 0 then g44_4 1 else bd1 (fX5_isNode N th nd sw so lo cl ea on lg wr pe p1) (fun v11 => (if v11 = 0 then g44_4 1 else (if p0 = p1 then g44_4 2 else (if sw = 24 then g44_4 3 else g44_4 0)))))))
set_option maxRecDepth 100000 in
theorem inX5_addSwitch_X5 : ∀ w ∈ wsX50, w ∈ wsX5_addSwitch := by decide +kernel
set_option maxRecDepth 100000 in
theorem lkX5_addSwitch_0 : (.fieldLink RX5 35 "SwitchlogModel" "thrown" "I" : Cond) ∈ wsX5_addSwitch := by decide +kernel
set_option maxRecDepth 100000 in
theorem lkX5_addSwitch_1 : (.fieldLink RX5 7 "SwitchlogModel" "one" "[I" : Cond) ∈ wsX5_addSwitch := by decide +kernel
set_option maxRecDepth 100000 in
theorem lkX5_addSwitch_2 : (.fieldLink RX5 46 "SwitchlogModel" "switches" "I" : Cond) ∈ wsX5_addSwitch := by decide +kernel
set_option maxRecDepth 100000 in
theorem lkX5_addSwitch_3 : (.fieldLink RX5 13 "SwitchlogModel" "other" "[I" : Cond) ∈ wsX5_addSwitch := by decide +kernel
set_option maxRecDepth 100000 in
theorem lkX5_addSwitch_4 : (.fieldLink RX5 16 "SwitchlogModel" "isBreaker" "[Z" : Cond) ∈ wsX5_addSwitch := by decide +kernel
abbrev rmX5_addSwitch : Room := { frames := 2, cells := 0, slots := 0, locals := 43 }
set_option maxHeartbeats 4000000 in
set_option maxRecDepth 100000 in
theorem kX5_addSwitch (l : Launch) (D : va_G) (cI cZ cL : ClassId) (sz0 : Nat) (h_m a_log a_seq a_mho a_mih a_far h_one h_oth h_isb : Nat) (th : Int32) (nd : Int32) (sw : Int32) (so : Int32) (lo : Int32) (cl : Int32) (ea : Int32) (on : Int32) (lg : Int32) (wr : Int32) (pe : Int32) (one : Nat → Int32) (oth : Nat → Int32) (isb : Nat → Int32) (p0 : Int32) (p1 : Int32) (p2 : Int32) (N : Nat) {r : Int32} {r_0 : Int32} {r_1 : Nat → Int32} {r_2 : Nat → Int32} {r_3 : Nat → Int32} {r_4 : Int32} (h : fX5_addSwitch N th nd sw so lo cl ea on lg wr pe one oth isb p0 p1 p2 = some (r, r_0, r_1, r_2, r_3, r_4)) : Met l yX5_addSwitch wsX5_addSwitch rmX5_addSwitch (PM D cI cZ cL [.ref h_m, .int p0, .int p1, .int p2] [(h_m, .inr (5, [.int th, .int nd, .int sw, .int so, .int lo, .ref h_one, .ref h_oth, .ref h_isb, .int cl, .int ea, .int on, .int lg, .ref a_log, .int wr, .ref a_seq, .int pe, .ref a_mho, .ref a_mih, .ref a_far])), (h_one, .inl (cI, 24, .inl one)), (h_oth, .inl (cI, 24, .inl oth)), (h_isb, .inl (cZ, 24, .inl isb))] sz0) (QM D (some (.int r)) (va_A [(h_m, .inr (5, [.int th, .int nd, .int sw, .int so, .int lo, .ref h_one, .ref h_oth, .ref h_isb, .int cl, .int ea, .int on, .int lg, .ref a_log, .int wr, .ref a_seq, .int pe, .ref a_mho, .ref a_mih, .ref a_far])), (h_one, .inl (cI, 24, .inl one)), (h_oth, .inl (cI, 24, .inl oth)), (h_isb, .inl (cZ, 24, .inl isb))] sz0) [(h_m, .inr (5, [.int r_0, .int nd, .int r_4, .int so, .int lo, .ref h_one, .ref h_oth, .ref h_isb, .int cl, .int ea, .int on, .int lg, .ref a_log, .int wr, .ref a_seq, .int pe, .ref a_mho, .ref a_mih, .ref a_far])), (h_one, .inl (cI, 24, .inl r_1)), (h_oth, .inl (cI, 24, .inl r_2)), (h_isb, .inl (cZ, 24, .inl r_3))]) 0 0 (va_A [(h_m, .inr (5, [.int th, .int nd, .int sw, .int so, .int lo, .ref h_one, .ref h_oth, .ref h_isb, .int cl, .int ea, .int on, .int lg, .ref a_log, .int wr, .ref a_seq, .int pe, .ref a_mho, .ref a_mih, .ref a_far])), (h_one, .inl (cI, 24, .inl one)), (h_oth, .inl (cI, 24, .inl oth)), (h_isb, .inl (cZ, 24, .inl isb))] sz0) := by
  refine Met.ofW (cc := cX5_addSwitch) (maxL := 4) (ret := (some .int)) (by decide) rfl ?_
  intro p e s m args below meth c s₁ B hml hv
  obtain ⟨rfl, hsz, hP, hKK, hD0⟩ := hv
  have hK := hKK.1
  have hx := B.exec
  have hb := B.bytes
  have hr := B.returns
  have hts := atoms_spec (ws := wsX5_addSwitch) B.pre
  have hown : s.vm.findClass RX5 = some m.cls := findClass_of_methodNamed B.named
  have hlocks := B.notSynchronized
  subst hsz
  have hD := hD0.self (sz := s.heap.size)
  generalize hAe : va_A [(h_m, .inr (5, [.int th, .int nd, .int sw, .int so, .int lo, .ref h_one, .ref h_oth, .ref h_isb, .int cl, .int ea, .int on, .int lg, .ref a_log, .int wr, .ref a_seq, .int pe, .ref a_mho, .ref a_mih, .ref a_far])), (h_one, .inl (cI, 24, .inl one)), (h_oth, .inl (cI, 24, .inl oth)), (h_isb, .inl (cZ, 24, .inl isb))] s.heap.size = A at hD ⊢
  have hA : ∀ q : Nat, s.heap.size ≤ q → A q := fun q h => by rw [← hAe]; exact Or.inr h
  have hS : va_S A s.heap s.heap [] := va_S.rf
  have hl := lv_entry ([.ref h_m, .int p0, .int p1, .int p2]) (n := 4) (Nat.le_of_ble_eq_true rfl)
  rw [lg_entry_eq]
  generalize (lg_sl ([.ref h_m, .int p0, .int p1, .int p2]) ++ List.replicate (4 - (lg_sl ([.ref h_m, .int p0, .int p1, .int p2])).length) Slot.unset).toArray = ls at hl ⊢
  have hl : lv_has ls 4 [(0, .ref h_m), (1, .int p0), (2, .int p1), (3, .int p2)] := hl
  obtain ⟨QQ, hQQ⟩ : ∃ Z, Z = MQ below (QM D (some (.int r)) A [(h_m, .inr (5, [.int r_0, .int nd, .int r_4, .int so, .int lo, .ref h_one, .ref h_oth, .ref h_isb, .int cl, .int ea, .int on, .int lg, .ref a_log, .int wr, .ref a_seq, .int pe, .ref a_mho, .ref a_mih, .ref a_far])), (h_one, .inl (cI, 24, .inl r_1)), (h_oth, .inl (cI, 24, .inl r_2)), (h_isb, .inl (cZ, 24, .inl r_3))]) ([.ref h_m, .int p0, .int p1, .int p2] : List Value).toArray s 0 0 A := ⟨_, rfl⟩
  rw [← hQQ]
  obtain ⟨H, locs, hHe, hLe⟩ : ∃ (H : Heap) (locs : List Loc), H = s.heap ∧ locs = [] := ⟨_, _, rfl, rfl⟩
  have hP : va_P D vwCl [(h_m, .inr (5, [.int th, .int nd, .int sw, .int so, .int lo, .ref h_one, .ref h_oth, .ref h_isb, .int cl, .int ea, .int on, .int lg, .ref a_log, .int wr, .ref a_seq, .int pe, .ref a_mho, .ref a_mih, .ref a_far])), (h_one, .inl (cI, 24, .inl one)), (h_oth, .inl (cI, 24, .inl oth)), (h_isb, .inl (cZ, 24, .inl isb))] H := by rw [hHe]; exact hP
  have hS : va_S A s.heap H locs := by rw [hHe, hLe]; exact hS
  have hW0 : ∀ QQ : State → Prop, W p l e (headSpec wsX5_addSwitch rmX5_addSwitch).room s m (([.ref h_m, .int p0, .int p1, .int p2] : List Value).toArray) below meth c H locs 0 0 QQ (F0 m 0 ls []) → W p l e (headSpec wsX5_addSwitch rmX5_addSwitch).room s m (([.ref h_m, .int p0, .int p1, .int p2] : List Value).toArray) below meth c s.heap [] 0 0 QQ (F0 m 0 ls []) := by rw [hHe, hLe]; exact fun _ h => h
  refine hW0 _ ?_
  clear hW0
  unfold fX5_addSwitch at h
  refine lv_aload_n hx hb dX5_addSwitch_0 rfl (lv_at hl 0 rfl) ?_
  refine lv_aload_n hx hb dX5_addSwitch_1 rfl (lv_at hl 0 rfl) ?_
  refine lv_iload_n hx hb dX5_addSwitch_2 rfl (lv_at hl 1 rfl) ?_
  obtain ⟨v1, hq2, h⟩ := bd1_e h
  refine zz_cV (As := [.int p0]) ⟨hx, hb, hml, hown, hts⟩ (kX5_isNode l D cI cZ cL h_m h_one h_oth h_isb a_log a_seq a_mho a_mih a_far th nd sw so lo cl ea on lg wr pe p0 N hq2) (cwV 1 hts gX5_addSwitch_X5_isNode rfl rfl rfl (by decide +kernel) ⟨Nat.le_of_ble_eq_true rfl, Nat.le_of_ble_eq_true rfl⟩) (hP.sub (ws' := [(h_m, .inr (5, [.int th, .int nd, .int sw, .int so, .int lo, .ref h_one, .ref h_oth, .ref h_isb, .int cl, .int ea, .int on, .int lg, .ref a_log, .int wr, .ref a_seq, .int pe, .ref a_mho, .ref a_mih, .ref a_far]))]) [0] rfl) hKK (va_recv hK hP (ci := 5) (q0 := 0) rfl rfl) rfl hl.1 rfl (Nat.le_of_ble_eq_true rfl) dX5_addSwitch_3 ⟨Nat.le_of_ble_eq_true rfl, Nat.le_of_ble_eq_true rfl⟩ ?_
  refine jn1_e (fun (y3 : Int32) => ∀ (H : Heap) (locs : List Loc) (ls : Array Slot), va_P D vwCl [(h_m, .inr (5, [.int th, .int nd, .int sw, .int so, .int lo, .ref h_one, .ref h_oth, .ref h_isb, .int cl, .int ea, .int on, .int lg, .ref a_log, .int wr, .ref a_seq, .int pe, .ref a_mho, .ref a_mih, .ref a_far])), (h_one, .inl (cI, 24, .inl one)), (h_oth, .inl (cI, 24, .inl oth)), (h_isb, .inl (cZ, 24, .inl isb))] H → va_D A [(h_m, .inr (5, [.int th, .int nd, .int sw, .int so, .int lo, .ref h_one, .ref h_oth, .ref h_isb, .int cl, .int ea, .int on, .int lg, .ref a_log, .int wr, .ref a_seq, .int pe, .ref a_mho, .ref a_mih, .ref a_far])), (h_one, .inl (cI, 24, .inl one)), (h_oth, .inl (cI, 24, .inl oth)), (h_isb, .inl (cZ, 24, .inl isb))] → va_S A s.heap H locs → lv_has ls 4 [(0, .ref h_m), (1, .int p0), (2, .int p1), (3, .int p2)] → W p l e (headSpec wsX5_addSwitch rmX5_addSwitch).room s m (([.ref h_m, .int p0, .int p1, .int p2] : List Value).toArray) below meth c H locs 0 0 QQ (F0 m 44 ls [.int y3, .ref h_m])) h (fun y3 h H locs ls hP hD hS hl => ?_) (fun g44_4 hg44_5 h => ?_)
  · refine va_put (D := D) (ci := 5) (v := .int y3) (ty := .int) (C := RX5) (T := TX5) (N := 19) hx hb hts inX5_addSwitch_X5 tyX5 tyX5_ok nmX5 hown hK hP hD hS 0 rfl rfl 0 (by decide) (hts _ lkX5_addSwitch_0) (fun _ h9 => h9) rfl (by decide +kernel) rfl rfl (Nat.le_of_ble_eq_true rfl) dX5_addSwitch_44 (fun H locs hP hD hS => ?_)
    have hP : va_P D vwCl [(h_m, .inr (5, [.int y3, .int nd, .int sw, .int so, .int lo, .ref h_one, .ref h_oth, .ref h_isb, .int cl, .int ea, .int on, .int lg, .ref a_log, .int wr, .ref a_seq, .int pe, .ref a_mho, .ref a_mih, .ref a_far])), (h_one, .inl (cI, 24, .inl one)), (h_oth, .inl (cI, 24, .inl oth)), (h_isb, .inl (cZ, 24, .inl isb))] H := hP
    have hD : va_D A [(h_m, .inr (5, [.int y3, .int nd, .int sw, .int so, .int lo, .ref h_one, .ref h_oth, .ref h_isb, .int cl, .int ea, .int on, .int lg, .ref a_log, .int wr, .ref a_seq, .int pe, .ref a_mho, .ref a_mih, .ref a_far])), (h_one, .inl (cI, 24, .inl one)), (h_oth, .inl (cI, 24, .inl oth)), (h_isb, .inl (cZ, 24, .inl isb))] := hD
    refine lv_aload_n hx hb dX5_addSwitch_47 rfl (lv_at hl 0 rfl) ?_
    refine va_get (D := D) (ci := 5) (v := .int y3) (C := RX5) (T := TX5) (N := 19) hx hb hts inX5_addSwitch_X5 hown hK hP 0 rfl rfl 0 (by decide) (hts _ lkX5_addSwitch_0) (fun _ h9 => h9) rfl dX5_addSwitch_48 ?_
    refine lv_if_le (tgt := 56) hx hb dX5_addSwitch_51 (by decide) (fun c6 => ?_) (fun c6 => ?_)
    · have h := it_t h c6
      refine lv_aload_n hx hb dX5_addSwitch_56 rfl (lv_at hl 0 rfl) ?_
      refine va_get (D := D) (ci := 5) (v := .ref h_one) (C := RX5) (T := TX5) (N := 19) hx hb hts inX5_addSwitch_X5 hown hK hP 0 rfl rfl 5 (by decide) (hts _ lkX5_addSwitch_1) (fun _ h9 => h9) rfl dX5_addSwitch_57 ?_
      refine lv_aload_n hx hb dX5_addSwitch_60 rfl (lv_at hl 0 rfl) ?_
      refine va_get (D := D) (ci := 5) (v := .int sw) (C := RX5) (T := TX5) (N := 19) hx hb hts inX5_addSwitch_X5 hown hK hP 0 rfl rfl 2 (by decide) (hts _ lkX5_addSwitch_2) (fun _ h9 => h9) rfl dX5_addSwitch_61 ?_
      refine lv_iload_n hx hb dX5_addSwitch_64 rfl (lv_at hl 1 rfl) ?_
      obtain ⟨hi7, h⟩ := gin_e h
      refine va_iast hx hb hK hP hD hS 1 0 rfl rfl hi7 dX5_addSwitch_65 (fun H locs hP hD hS => ?_)
      have hP : va_P D vwCl [(h_m, .inr (5, [.int y3, .int nd, .int sw, .int so, .int lo, .ref h_one, .ref h_oth, .ref h_isb, .int cl, .int ea, .int on, .int lg, .ref a_log, .int wr, .ref a_seq, .int pe, .ref a_mho, .ref a_mih, .ref a_far])), (h_one, .inl (cI, 24, .inl (upd one sw.toNatClampNeg p0))), (h_oth, .inl (cI, 24, .inl oth)), (h_isb, .inl (cZ, 24, .inl isb))] H := hP
      have hD : va_D A [(h_m, .inr (5, [.int y3, .int nd, .int sw, .int so, .int lo, .ref h_one, .ref h_oth, .ref h_isb, .int cl, .int ea, .int on, .int lg, .ref a_log, .int wr, .ref a_seq, .int pe, .ref a_mho, .ref a_mih, .ref a_far])), (h_one, .inl (cI, 24, .inl (upd one sw.toNatClampNeg p0))), (h_oth, .inl (cI, 24, .inl oth)), (h_isb, .inl (cZ, 24, .inl isb))] := hD
      refine lv_aload_n hx hb dX5_addSwitch_66 rfl (lv_at hl 0 rfl) ?_
      refine va_get (D := D) (ci := 5) (v := .ref h_oth) (C := RX5) (T := TX5) (N := 19) hx hb hts inX5_addSwitch_X5 hown hK hP 0 rfl rfl 6 (by decide) (hts _ lkX5_addSwitch_3) (fun _ h9 => h9) rfl dX5_addSwitch_67 ?_
      refine lv_aload_n hx hb dX5_addSwitch_70 rfl (lv_at hl 0 rfl) ?_
      refine va_get (D := D) (ci := 5) (v := .int sw) (C := RX5) (T := TX5) (N := 19) hx hb hts inX5_addSwitch_X5 hown hK hP 0 rfl rfl 2 (by decide) (hts _ lkX5_addSwitch_2) (fun _ h9 => h9) rfl dX5_addSwitch_71 ?_
      refine lv_iload_n hx hb dX5_addSwitch_74 rfl (lv_at hl 2 rfl) ?_
      obtain ⟨hi8, h⟩ := gin_e h
      refine va_iast hx hb hK hP hD hS 2 0 rfl rfl hi8 dX5_addSwitch_75 (fun H locs hP hD hS => ?_)
      have hP : va_P D vwCl [(h_m, .inr (5, [.int y3, .int nd, .int sw, .int so, .int lo, .ref h_one, .ref h_oth, .ref h_isb, .int cl, .int ea, .int on, .int lg, .ref a_log, .int wr, .ref a_seq, .int pe, .ref a_mho, .ref a_mih, .ref a_far])), (h_one, .inl (cI, 24, .inl (upd one sw.toNatClampNeg p0))), (h_oth, .inl (cI, 24, .inl (upd oth sw.toNatClampNeg p1))), (h_isb, .inl (cZ, 24, .inl isb))] H := hP
      have hD : va_D A [(h_m, .inr (5, [.int y3, .int nd, .int sw, .int so, .int lo, .ref h_one, .ref h_oth, .ref h_isb, .int cl, .int ea, .int on, .int lg, .ref a_log, .int wr, .ref a_seq, .int pe, .ref a_mho, .ref a_mih, .ref a_far])), (h_one, .inl (cI, 24, .inl (upd one sw.toNatClampNeg p0))), (h_oth, .inl (cI, 24, .inl (upd oth sw.toNatClampNeg p1))), (h_isb, .inl (cZ, 24, .inl isb))] := hD
      refine lv_aload_n hx hb dX5_addSwitch_76 rfl (lv_at hl 0 rfl) ?_
      refine va_get (D := D) (ci := 5) (v := .ref h_isb) (C := RX5) (T := TX5) (N := 19) hx hb hts inX5_addSwitch_X5 hown hK hP 0 rfl rfl 7 (by decide) (hts _ lkX5_addSwitch_4) (fun _ h9 => h9) rfl dX5_addSwitch_77 ?_
      refine lv_aload_n hx hb dX5_addSwitch_80 rfl (lv_at hl 0 rfl) ?_
      refine va_get (D := D) (ci := 5) (v := .int sw) (C := RX5) (T := TX5) (N := 19) hx hb hts inX5_addSwitch_X5 hown hK hP 0 rfl rfl 2 (by decide) (hts _ lkX5_addSwitch_2) (fun _ h9 => h9) rfl dX5_addSwitch_81 ?_
      refine lv_iload_n hx hb dX5_addSwitch_84 rfl (lv_at hl 3 rfl) ?_
      obtain ⟨hi9, h⟩ := gin_e h
      refine va_zast hx hb hK hP hD hS 3 1 rfl rfl hi9 dX5_addSwitch_85 (fun H locs hP hD hS => ?_)
      have hP : va_P D vwCl [(h_m, .inr (5, [.int y3, .int nd, .int sw, .int so, .int lo, .ref h_one, .ref h_oth, .ref h_isb, .int cl, .int ea, .int on, .int lg, .ref a_log, .int wr, .ref a_seq, .int pe, .ref a_mho, .ref a_mih, .ref a_far])), (h_one, .inl (cI, 24, .inl (upd one sw.toNatClampNeg p0))), (h_oth, .inl (cI, 24, .inl (upd oth sw.toNatClampNeg p1))), (h_isb, .inl (cZ, 24, .inl (upd isb sw.toNatClampNeg (vp_nar .boolean p2))))] H := hP
      have hD : va_D A [(h_m, .inr (5, [.int y3, .int nd, .int sw, .int so, .int lo, .ref h_one, .ref h_oth, .ref h_isb, .int cl, .int ea, .int on, .int lg, .ref a_log, .int wr, .ref a_seq, .int pe, .ref a_mho, .ref a_mih, .ref a_far])), (h_one, .inl (cI, 24, .inl (upd one sw.toNatClampNeg p0))), (h_oth, .inl (cI, 24, .inl (upd oth sw.toNatClampNeg p1))), (h_isb, .inl (cZ, 24, .inl (upd isb sw.toNatClampNeg (vp_nar .boolean p2))))] := hD
      refine lv_aload_n hx hb dX5_addSwitch_86 rfl (lv_at hl 0 rfl) ?_
      refine lv_dup hx hb dX5_addSwitch_87 rfl ?_
      refine va_get (D := D) (ci := 5) (v := .int sw) (C := RX5) (T := TX5) (N := 19) hx hb hts inX5_addSwitch_X5 hown hK hP 0 rfl rfl 2 (by decide) (hts _ lkX5_addSwitch_2) (fun _ h9 => h9) rfl dX5_addSwitch_88 ?_
      refine lv_iconst (v := 1) hx hb dX5_addSwitch_91 (by decide) ?_
      refine lv_iadd hx hb dX5_addSwitch_92 ?_
      refine va_put (D := D) (ci := 5) (v := .int (sw + 1)) (ty := .int) (C := RX5) (T := TX5) (N := 19) hx hb hts inX5_addSwitch_X5 tyX5 tyX5_ok nmX5 hown hK hP hD hS 0 rfl rfl 2 (by decide) (hts _ lkX5_addSwitch_2) (fun _ h9 => h9) rfl (by decide +kernel) rfl rfl (Nat.le_of_ble_eq_true rfl) dX5_addSwitch_93 (fun H locs hP hD hS => ?_)
      have hP : va_P D vwCl [(h_m, .inr (5, [.int y3, .int nd, .int (sw + 1), .int so, .int lo, .ref h_one, .ref h_oth, .ref h_isb, .int cl, .int ea, .int on, .int lg, .ref a_log, .int wr, .ref a_seq, .int pe, .ref a_mho, .ref a_mih, .ref a_far])), (h_one, .inl (cI, 24, .inl (upd one sw.toNatClampNeg p0))), (h_oth, .inl (cI, 24, .inl (upd oth sw.toNatClampNeg p1))), (h_isb, .inl (cZ, 24, .inl (upd isb sw.toNatClampNeg (vp_nar .boolean p2))))] H := hP
      have hD : va_D A [(h_m, .inr (5, [.int y3, .int nd, .int (sw + 1), .int so, .int lo, .ref h_one, .ref h_oth, .ref h_isb, .int cl, .int ea, .int on, .int lg, .ref a_log, .int wr, .ref a_seq, .int pe, .ref a_mho, .ref a_mih, .ref a_far])), (h_one, .inl (cI, 24, .inl (upd one sw.toNatClampNeg p0))), (h_oth, .inl (cI, 24, .inl (upd oth sw.toNatClampNeg p1))), (h_isb, .inl (cZ, 24, .inl (upd isb sw.toNatClampNeg (vp_nar .boolean p2))))] := hD
      refine lv_aload_n hx hb dX5_addSwitch_96 rfl (lv_at hl 0 rfl) ?_
      refine va_get (D := D) (ci := 5) (v := .int (sw + 1)) (C := RX5) (T := TX5) (N := 19) hx hb hts inX5_addSwitch_X5 hown hK hP 0 rfl rfl 2 (by decide) (hts _ lkX5_addSwitch_2) (fun _ h9 => h9) rfl dX5_addSwitch_97 ?_
      refine lv_iconst (v := 1) hx hb dX5_addSwitch_100 (by decide) ?_
      refine lv_isub hx hb dX5_addSwitch_101 ?_
      cases h
      rw [hQQ]
      exact W.iret hx hb hr (fun t ht hW => ⟨rfl, by rw [ht]; exact hP, hD, hS.F ht⟩) hS.2.2 dX5_addSwitch_102
    · have h := it_f h c6
      refine lv_iconst (v := 0) hx hb dX5_addSwitch_54 (by decide) ?_
      cases h
      rw [hQQ]
      exact W.iret hx hb hr (fun t ht hW => ⟨rfl, by rw [ht]; exact hP, hD, hS.F ht⟩) hS.2.2 dX5_addSwitch_55
  · refine lv_if_eq (tgt := 17) hx hb dX5_addSwitch_6 (by decide) (fun c10 => ?_) (fun c10 => ?_)
    · have h := it_t h c10
      refine lv_iconst (v := 1) hx hb dX5_addSwitch_17 (by decide) ?_
      refine lv_goto (tgt := 44) hx hb dX5_addSwitch_18 (by decide) ?_
      exact hg44_5 1 h H locs ls hP hD hS (lv_sub hl [0, 1, 2, 3] rfl)
    · have h := it_f h c10
      refine lv_aload_n hx hb dX5_addSwitch_9 rfl (lv_at hl 0 rfl) ?_
      refine lv_iload_n hx hb dX5_addSwitch_10 rfl (lv_at hl 2 rfl) ?_
      obtain ⟨v11, hq12, h⟩ := bd1_e h
      refine zz_cV (As := [.int p1]) ⟨hx, hb, hml, hown, hts⟩ (kX5_isNode l D cI cZ cL h_m h_one h_oth h_isb a_log a_seq a_mho a_mih a_far th nd sw so lo cl ea on lg wr pe p1 N hq12) (cwV 1 hts gX5_addSwitch_X5_isNode rfl rfl rfl (by decide +kernel) ⟨Nat.le_of_ble_eq_true rfl, Nat.le_of_ble_eq_true rfl⟩) (hP.sub (ws' := [(h_m, .inr (5, [.int th, .int nd, .int sw, .int so, .int lo, .ref h_one, .ref h_oth, .ref h_isb, .int cl, .int ea, .int on, .int lg, .ref a_log, .int wr, .ref a_seq, .int pe, .ref a_mho, .ref a_mih, .ref a_far]))]) [0] rfl) hKK (va_recv hK hP (ci := 5) (q0 := 0) rfl rfl) rfl hl.1 rfl (Nat.le_of_ble_eq_true rfl) dX5_addSwitch_11 ⟨Nat.le_of_ble_eq_true rfl, Nat.le_of_ble_eq_true rfl⟩ ?_
      refine lv_if_ne (tgt := 21) hx hb dX5_addSwitch_14 (by decide) (fun c13 => ?_) (fun c13 => ?_)
      · have h := it_f h c13
        refine lv_iload_n hx hb dX5_addSwitch_21 rfl (lv_at hl 1 rfl) ?_
        refine lv_iload_n hx hb dX5_addSwitch_22 rfl (lv_at hl 2 rfl) ?_
        refine lv_icmp_ne (tgt := 30) hx hb dX5_addSwitch_23 (by decide) (fun c14 => ?_) (fun c14 => ?_)
        · have h := it_f h c14
          refine lv_aload_n hx hb dX5_addSwitch_30 rfl (lv_at hl 0 rfl) ?_
          refine va_get (D := D) (ci := 5) (v := .int sw) (C := RX5) (T := TX5) (N := 19) hx hb hts inX5_addSwitch_X5 hown hK hP 0 rfl rfl 2 (by decide) (hts _ lkX5_addSwitch_2) (fun _ h9 => h9) rfl dX5_addSwitch_31 ?_
          refine lv_bipush (v := 24) hx hb dX5_addSwitch_34 (by decide) ?_
          refine lv_icmp_ne (tgt := 43) hx hb dX5_addSwitch_36 (by decide) (fun c15 => ?_) (fun c15 => ?_)
          · have h := it_f h c15
            refine lv_iconst (v := 0) hx hb dX5_addSwitch_43 (by decide) ?_
            exact hg44_5 0 h H locs ls hP hD hS (lv_sub hl [0, 1, 2, 3] rfl)
          · have h := it_t h c15
            refine lv_iconst (v := 3) hx hb dX5_addSwitch_39 (by decide) ?_
            refine lv_goto (tgt := 44) hx hb dX5_addSwitch_40 (by decide) ?_
            exact hg44_5 3 h H locs ls hP hD hS (lv_sub hl [0, 1, 2, 3] rfl)
        · have h := it_t h c14
          refine lv_iconst (v := 2) hx hb dX5_addSwitch_26 (by decide) ?_
          refine lv_goto (tgt := 44) hx hb dX5_addSwitch_27 (by decide) ?_
          exact hg44_5 2 h H locs ls hP hD hS (lv_sub hl [0, 1, 2, 3] rfl)
      · have h := it_t h c13
        refine lv_iconst (v := 1) hx hb dX5_addSwitch_17 (by decide) ?_
        refine lv_goto (tgt := 44) hx hb dX5_addSwitch_18 (by decide) ?_
        exact hg44_5 1 h H locs ls hP hD hS (lv_sub hl [0, 1, 2, 3] rfl)
