def fL_low (N : Nat)  (p0 : Int32) (p1 : Int32) : Option ((Int32)) :=
  gd (decide (¬ p1 = 0)) (some ((((p0 : Int32).toUInt32 >>> ((1 : Int32).toUInt32 &&& Int32.toUInt32 31)).toInt32) - (((p0 : Int32).toUInt32 >>> ((1 : Int32).toUInt32 &&& Int32.toUInt32 31)).toInt32) / p1 * p1))
abbrev rmL_low : Room := { frames := 0, cells := 0, slots := 0, locals := 0 }
set_option maxHeartbeats 16000000 in
set_option maxRecDepth 200000 in
theorem kL_low (l : Launch) (D : va_G) (cI cZ cL : ClassId)  (p0 : Int32) (p1 : Int32) (N : Nat) {r : Int32} (h : fL_low N p0 p1 = some r) : Met l yL_low wsL_low rmL_low (PR D cI cZ cL [.int p0, .int p1] []) (vp_Si (fun z => z = r)) 0 0 (fun _ => False) := by
  refine Met.ofW (cc := cL_low) (maxL := 2) (ret := (some .int)) (by decide) rfl ?_
  intro p e s m args below meth c s₁ B hml hv
  obtain ⟨rfl, hP, hKK⟩ := hv
  have hK := hKK.1
  have hx := B.exec
  have hb := B.bytes
  have hr := B.returns
  have hts := atoms_spec (ws := wsL_low) B.pre
  have hown : s.vm.findClass RL = some m.cls := findClass_of_methodNamed B.named
  have hlocks := B.notSynchronized
  have hl := lv_entry ([.int p0, .int p1]) (n := 2) (Nat.le_of_ble_eq_true rfl)
  rw [lg_entry_eq]
  generalize (lg_sl ([.int p0, .int p1]) ++ List.replicate (2 - (lg_sl ([.int p0, .int p1])).length) Slot.unset).toArray = ls at hl ⊢
  have hl : lv_has ls 2 [(0, .int p0), (1, .int p1)] := hl
  obtain ⟨QQ, hQQ⟩ : ∃ Z, Z = MQ below (vp_Si (fun z => z = r)) ([.int p0, .int p1] : List Value).toArray s 0 0 (fun _ => False) := ⟨_, rfl⟩
  rw [← hQQ]
  unfold fL_low at h
  refine lv_iload_n hx hb dL_low_0 rfl (lv_at hl 0 rfl) ?_
  refine lv_iconst (v := 1) hx hb dL_low_1 (by decide) ?_
  refine lv_iushr hx hb dL_low_2 rfl ?_
  refine lv_iload_n hx hb dL_low_3 rfl (lv_at hl 1 rfl) ?_
  obtain ⟨hz1, h⟩ := gd_e h
  refine lv_irem hx hb dL_low_4 (of_decide_eq_true hz1) ?_
  rw [hQQ]
  exact W.iret (v := (((p0 : Int32).toUInt32 >>> ((1 : Int32).toUInt32 &&& Int32.toUInt32 31)).toInt32) - (((p0 : Int32).toUInt32 >>> ((1 : Int32).toUInt32 &&& Int32.toUInt32 31)).toInt32) / p1 * p1) hx hb hr (fun t ht hW => ⟨_, rfl, Option.some.inj h, ht⟩) (fun q hq => absurd hq List.not_mem_nil) dL_low_5

def fL_opposite (N : Nat)  (p0 : Int32) : Option ((Int32)) :=
  some ((((p0 / 100) ^^^ 1) * 100) + (p0 - p0 / 100 * 100))
abbrev rmL_opposite : Room := { frames := 0, cells := 0, slots := 0, locals := 0 }
set_option maxHeartbeats 16000000 in
set_option maxRecDepth 200000 in
theorem kL_opposite (l : Launch) (D : va_G) (cI cZ cL : ClassId)  (p0 : Int32) (N : Nat) {r : Int32} (h : fL_opposite N p0 = some r) : Met l yL_opposite wsL_opposite rmL_opposite (PR D cI cZ cL [.int p0] []) (vp_Si (fun z => z = r)) 0 0 (fun _ => False) := by
  refine Met.ofW (cc := cL_opposite) (maxL := 1) (ret := (some .int)) (by decide) rfl ?_
  intro p e s m args below meth c s₁ B hml hv
  obtain ⟨rfl, hP, hKK⟩ := hv
  have hK := hKK.1
  have hx := B.exec
  have hb := B.bytes
  have hr := B.returns
  have hts := atoms_spec (ws := wsL_opposite) B.pre
  have hown : s.vm.findClass RL = some m.cls := findClass_of_methodNamed B.named
  have hlocks := B.notSynchronized
  have hl := lv_entry ([.int p0]) (n := 1) (Nat.le_of_ble_eq_true rfl)
  rw [lg_entry_eq]
  generalize (lg_sl ([.int p0]) ++ List.replicate (1 - (lg_sl ([.int p0])).length) Slot.unset).toArray = ls at hl ⊢
  have hl : lv_has ls 1 [(0, .int p0)] := hl
  obtain ⟨QQ, hQQ⟩ : ∃ Z, Z = MQ below (vp_Si (fun z => z = r)) ([.int p0] : List Value).toArray s 0 0 (fun _ => False) := ⟨_, rfl⟩
  rw [← hQQ]
  unfold fL_opposite at h
  refine lv_iload_n hx hb dL_opposite_0 rfl (lv_at hl 0 rfl) ?_
  refine lv_bipush (v := 100) hx hb dL_opposite_1 (by decide) ?_
  refine lv_idiv hx hb dL_opposite_3 (by decide) ?_
  refine lv_iconst (v := 1) hx hb dL_opposite_4 (by decide) ?_
  refine lv_ixor hx hb dL_opposite_5 ?_
  refine lv_bipush (v := 100) hx hb dL_opposite_6 (by decide) ?_
  refine lv_imul hx hb dL_opposite_8 ?_
  refine lv_iload_n hx hb dL_opposite_9 rfl (lv_at hl 0 rfl) ?_
  refine lv_bipush (v := 100) hx hb dL_opposite_10 (by decide) ?_
  refine lv_irem hx hb dL_opposite_12 (by decide) ?_
  refine lv_iadd hx hb dL_opposite_13 ?_
  rw [hQQ]
  exact W.iret (v := (((p0 / 100) ^^^ 1) * 100) + (p0 - p0 / 100 * 100)) hx hb hr (fun t ht hW => ⟨_, rfl, Option.some.inj h, ht⟩) (fun q hq => absurd hq List.not_mem_nil) dL_opposite_14

def fL_with (N : Nat) (fm : Nat → Int32) (fg : Nat → Int32) (p2 : Int32) : Option ((Int32)) :=
  it2 (fun g5_3 (x1 : Int32) (x2 : Int32) => (if (fg 0) ≤ x1 then some x2 else gin x1 16 ((if ((fm x1.toNatClampNeg) &&& p2) = 0 then g5_3 (x1 + 1) x2 else g5_3 (x1 + 1) (x2 ||| ((1 : Int32) <<< (x1 &&& 31))))))) N 0 0
abbrev rmL_with : Room := { frames := 0, cells := 0, slots := 0, locals := 0 }
set_option maxHeartbeats 16000000 in
set_option maxRecDepth 200000 in
theorem kL_with (l : Launch) (D : va_G) (cI cZ cL : ClassId) (h_m h_g : Nat) (fm : Nat → Int32) (fg : Nat → Int32) (p2 : Int32) (N : Nat) {r : Int32} (h : fL_with N fm fg p2 = some r) : Met l yL_with wsL_with rmL_with (PR D cI cZ cL [.ref h_m, .ref h_g, .int p2] [(h_m, .inl (cI, 16, .inl fm)), (h_g, .inl (cI, 7, .inl fg))]) (vp_Si (fun z => z = r)) 0 0 (fun _ => False) := by
  refine Met.ofW (cc := cL_with) (maxL := 5) (ret := (some .int)) (by decide) rfl ?_
  intro p e s m args below meth c s₁ B hml hv
  obtain ⟨rfl, hP, hKK⟩ := hv
  have hK := hKK.1
  have hx := B.exec
  have hb := B.bytes
  have hr := B.returns
  have hts := atoms_spec (ws := wsL_with) B.pre
  have hown : s.vm.findClass RL = some m.cls := findClass_of_methodNamed B.named
  have hlocks := B.notSynchronized
  have hl := lv_entry ([.ref h_m, .ref h_g, .int p2]) (n := 5) (Nat.le_of_ble_eq_true rfl)
  rw [lg_entry_eq]
  generalize (lg_sl ([.ref h_m, .ref h_g, .int p2]) ++ List.replicate (5 - (lg_sl ([.ref h_m, .ref h_g, .int p2])).length) Slot.unset).toArray = ls at hl ⊢
  have hl : lv_has ls 5 [(0, .ref h_m), (1, .ref h_g), (2, .int p2)] := hl
  obtain ⟨QQ, hQQ⟩ : ∃ Z, Z = MQ below (vp_Si (fun z => z = r)) ([.ref h_m, .ref h_g, .int p2] : List Value).toArray s 0 0 (fun _ => False) := ⟨_, rfl⟩
  rw [← hQQ]
  unfold fL_with at h
  refine lv_iconst (v := 0) hx hb dL_with_0 (by decide) ?_
  refine lv_istore_n (lv' := [(3, .int 0), (0, .ref h_m), (1, .ref h_g), (2, .int p2)]) hx hb dL_with_1 rfl hl (by decide) rfl (fun ls hl => ?_)
  refine lv_iconst (v := 0) hx hb dL_with_2 (by decide) ?_
  refine lv_istore (lv' := [(4, .int 0), (3, .int 0), (0, .ref h_m), (1, .ref h_g), (2, .int p2)]) hx hb dL_with_3 hl (by decide) rfl (fun ls hl => ?_)
  refine it2_e (fun (x1 : Int32) (x2 : Int32) => ∀ ls : Array Slot, lv_has ls 5 [(4, .int x1), (3, .int x2), (0, .ref h_m), (1, .ref h_g), (2, .int p2)] → W p l e (headSpec wsL_with rmL_with).room s m (([.ref h_m, .ref h_g, .int p2] : List Value).toArray) below meth c s.heap [] (0) (0) QQ (F0 m 5 ls [])) (fun g5_3 hg5_4 x1 x2 h ls hl => ?_) N 0 0 h ls (lv_sub hl [0, 1, 2, 3, 4] rfl)
  refine lv_iload hx hb dL_with_5 (lv_at hl 0 rfl) ?_
  refine lv_aload_n hx hb dL_with_7 rfl (lv_at hl 3 rfl) ?_
  refine lv_iconst (v := 0) hx hb dL_with_8 (by decide) ?_
  refine va_iald hx hb hK hP 1 0 rfl rfl (by unfold vp_in; decide) dL_with_9 ?_
  refine lv_icmp_ge (tgt := 35) hx hb dL_with_10 (by decide) (fun c5 => ?_) (fun c5 => ?_)
  · have h := it_t h c5
    refine lv_iload_n hx hb dL_with_35 rfl (lv_at hl 1 rfl) ?_
    rw [hQQ]
    exact W.iret (v := x2) hx hb hr (fun t ht hW => ⟨_, rfl, Option.some.inj h, ht⟩) (fun q hq => absurd hq List.not_mem_nil) dL_with_36
  · have h := it_f h c5
    refine lv_aload_n hx hb dL_with_13 rfl (lv_at hl 2 rfl) ?_
    refine lv_iload hx hb dL_with_14 (lv_at hl 0 rfl) ?_
    obtain ⟨hi6, h⟩ := gin_e h
    refine va_iald hx hb hK hP 0 0 rfl rfl hi6 dL_with_16 ?_
    refine lv_iload_n hx hb dL_with_17 rfl (lv_at hl 4 rfl) ?_
    refine lv_iand hx hb dL_with_18 ?_
    refine lv_if_eq (tgt := 29) hx hb dL_with_19 (by decide) (fun c7 => ?_) (fun c7 => ?_)
    · have h := it_t h c7
      refine lv_iinc (v := x1 + 1) (lv' := [(4, .int (x1 + 1)), (3, .int x2), (0, .ref h_m), (1, .ref h_g), (2, .int p2)]) hx hb dL_with_29 hl (k := 0) rfl rfl (by decide) rfl (fun ls hl => ?_)
      refine lv_goto (tgt := 5) hx hb dL_with_32 (by decide) ?_
      exact hg5_4 (x1 + 1) x2 h ls (lv_sub hl [0, 1, 2, 3, 4] rfl)
    · have h := it_f h c7
      refine lv_iload_n hx hb dL_with_22 rfl (lv_at hl 1 rfl) ?_
      refine lv_iconst (v := 1) hx hb dL_with_23 (by decide) ?_
      refine lv_iload hx hb dL_with_24 (lv_at hl 0 rfl) ?_
      refine lv_ishl hx hb dL_with_26 ?_
      refine lv_ior hx hb dL_with_27 ?_
      refine lv_istore_n (lv' := [(3, .int (x2 ||| ((1 : Int32) <<< (x1 &&& 31)))), (4, .int x1), (0, .ref h_m), (1, .ref h_g), (2, .int p2)]) hx hb dL_with_28 rfl hl (by decide) rfl (fun ls hl => ?_)
      refine lv_iinc (v := x1 + 1) (lv' := [(4, .int (x1 + 1)), (3, .int (x2 ||| ((1 : Int32) <<< (x1 &&& 31)))), (0, .ref h_m), (1, .ref h_g), (2, .int p2)]) hx hb dL_with_29 hl (k := 1) rfl rfl (by decide) rfl (fun ls hl => ?_)
      refine lv_goto (tgt := 5) hx hb dL_with_32 (by decide) ?_
      exact hg5_4 (x1 + 1) (x2 ||| ((1 : Int32) <<< (x1 &&& 31))) h ls (lv_sub hl [0, 1, 2, 3, 4] rfl)

def fL_held (N : Nat) (fh : Nat → Int32) (fg : Nat → Int32)  : Option ((Int32)) :=
  it2 (fun g4_3 (x1 : Int32) (x2 : Int32) => (if (fg 6) ≤ x1 then some x2 else gin x1 10 (g4_3 (x1 + 1) (x2 ||| (fh x1.toNatClampNeg))))) N 0 0
abbrev rmL_held : Room := { frames := 0, cells := 0, slots := 0, locals := 0 }
set_option maxHeartbeats 16000000 in
set_option maxRecDepth 200000 in
theorem kL_held (l : Launch) (D : va_G) (cI cZ cL : ClassId) (h_h h_g : Nat) (fh : Nat → Int32) (fg : Nat → Int32)  (N : Nat) {r : Int32} (h : fL_held N fh fg = some r) : Met l yL_held wsL_held rmL_held (PR D cI cZ cL [.ref h_h, .ref h_g] [(h_h, .inl (cI, 10, .inl fh)), (h_g, .inl (cI, 7, .inl fg))]) (vp_Si (fun z => z = r)) 0 0 (fun _ => False) := by
  refine Met.ofW (cc := cL_held) (maxL := 4) (ret := (some .int)) (by decide) rfl ?_
  intro p e s m args below meth c s₁ B hml hv
  obtain ⟨rfl, hP, hKK⟩ := hv
  have hK := hKK.1
  have hx := B.exec
  have hb := B.bytes
  have hr := B.returns
  have hts := atoms_spec (ws := wsL_held) B.pre
  have hown : s.vm.findClass RL = some m.cls := findClass_of_methodNamed B.named
  have hlocks := B.notSynchronized
  have hl := lv_entry ([.ref h_h, .ref h_g]) (n := 4) (Nat.le_of_ble_eq_true rfl)
  rw [lg_entry_eq]
  generalize (lg_sl ([.ref h_h, .ref h_g]) ++ List.replicate (4 - (lg_sl ([.ref h_h, .ref h_g])).length) Slot.unset).toArray = ls at hl ⊢
  have hl : lv_has ls 4 [(0, .ref h_h), (1, .ref h_g)] := hl
  obtain ⟨QQ, hQQ⟩ : ∃ Z, Z = MQ below (vp_Si (fun z => z = r)) ([.ref h_h, .ref h_g] : List Value).toArray s 0 0 (fun _ => False) := ⟨_, rfl⟩
  rw [← hQQ]
  unfold fL_held at h
  refine lv_iconst (v := 0) hx hb dL_held_0 (by decide) ?_
  refine lv_istore_n (lv' := [(2, .int 0), (0, .ref h_h), (1, .ref h_g)]) hx hb dL_held_1 rfl hl (by decide) rfl (fun ls hl => ?_)
  refine lv_iconst (v := 0) hx hb dL_held_2 (by decide) ?_
  refine lv_istore_n (lv' := [(3, .int 0), (2, .int 0), (0, .ref h_h), (1, .ref h_g)]) hx hb dL_held_3 rfl hl (by decide) rfl (fun ls hl => ?_)
  refine it2_e (fun (x1 : Int32) (x2 : Int32) => ∀ ls : Array Slot, lv_has ls 4 [(3, .int x1), (2, .int x2), (0, .ref h_h), (1, .ref h_g)] → W p l e (headSpec wsL_held rmL_held).room s m (([.ref h_h, .ref h_g] : List Value).toArray) below meth c s.heap [] (0) (0) QQ (F0 m 4 ls [])) (fun g4_3 hg4_4 x1 x2 h ls hl => ?_) N 0 0 h ls (lv_sub hl [0, 1, 2, 3] rfl)
  refine lv_iload_n hx hb dL_held_4 rfl (lv_at hl 0 rfl) ?_
  refine lv_aload_n hx hb dL_held_5 rfl (lv_at hl 3 rfl) ?_
  refine lv_bipush (v := 6) hx hb dL_held_6 (by decide) ?_
  refine va_iald hx hb hK hP 1 0 rfl rfl (by unfold vp_in; decide) dL_held_8 ?_
  refine lv_icmp_ge (tgt := 24) hx hb dL_held_9 (by decide) (fun c5 => ?_) (fun c5 => ?_)
  · have h := it_t h c5
    refine lv_iload_n hx hb dL_held_24 rfl (lv_at hl 1 rfl) ?_
    rw [hQQ]
    exact W.iret (v := x2) hx hb hr (fun t ht hW => ⟨_, rfl, Option.some.inj h, ht⟩) (fun q hq => absurd hq List.not_mem_nil) dL_held_25
  · have h := it_f h c5
    refine lv_iload_n hx hb dL_held_12 rfl (lv_at hl 1 rfl) ?_
    refine lv_aload_n hx hb dL_held_13 rfl (lv_at hl 2 rfl) ?_
    refine lv_iload_n hx hb dL_held_14 rfl (lv_at hl 0 rfl) ?_
    obtain ⟨hi6, h⟩ := gin_e h
    refine va_iald hx hb hK hP 0 0 rfl rfl hi6 dL_held_15 ?_
    refine lv_ior hx hb dL_held_16 ?_
    refine lv_istore_n (lv' := [(2, .int (x2 ||| (fh x1.toNatClampNeg))), (3, .int x1), (0, .ref h_h), (1, .ref h_g)]) hx hb dL_held_17 rfl hl (by decide) rfl (fun ls hl => ?_)
    refine lv_iinc (v := x1 + 1) (lv' := [(3, .int (x1 + 1)), (2, .int (x2 ||| (fh x1.toNatClampNeg))), (0, .ref h_h), (1, .ref h_g)]) hx hb dL_held_18 hl (k := 1) rfl rfl (by decide) rfl (fun ls hl => ?_)
    refine lv_goto (tgt := 4) hx hb dL_held_21 (by decide) ?_
    exact hg4_4 (x1 + 1) (x2 ||| (fh x1.toNatClampNeg)) h ls (lv_sub hl [0, 1, 2, 3] rfl)

def fL_lay (N : Nat) (ft : Nat → Int32) (fm : Nat → Int32) (fg : Nat → Int32) (p3 : Int32) : Option ((Nat → Int32)) :=
  it2 (fun g3_3 (x1 : Int32) (w2 : Nat → Int32) => (if (fg 0) ≤ x1 then it2 (fun g28_8 (x6 : Int32) (w7 : Nat → Int32) => (if (fg 1) ≤ x6 then some w7 else (if ((p3 >>> (x6 &&& 31)) &&& 1) = 0 then g28_8 (x6 + 1) w7 else gin x6 24 (gin ((ft x6.toNatClampNeg) &&& 15) 16 (gin x6 24 (gin (((ft x6.toNatClampNeg) >>> (4 &&& 31)) &&& 15) 16 (it2 (fun g74_18 (x16 : Int32) (w17 : Nat → Int32) => (if (fg 0) ≤ x16 then g28_8 (x6 + 1) w17 else (if ((((w7 ((ft x6.toNatClampNeg) &&& 15).toNatClampNeg) ||| (w7 (((ft x6.toNatClampNeg) >>> (4 &&& 31)) &&& 15).toNatClampNeg)) >>> (x16 &&& 31)) &&& 1) = 1 then gin x16 16 (g74_18 (x16 + 1) (upd w17 x16.toNatClampNeg ((w7 ((ft x6.toNatClampNeg) &&& 15).toNatClampNeg) ||| (w7 (((ft x6.toNatClampNeg) >>> (4 &&& 31)) &&& 15).toNatClampNeg)))) else g74_18 (x16 + 1) w17))) N 0 w7))))))) N 0 w2 else gin x1 16 (g3_3 (x1 + 1) (upd w2 x1.toNatClampNeg ((1 : Int32) <<< (x1 &&& 31)))))) N 0 fm
abbrev rmL_lay : Room := { frames := 0, cells := 0, slots := 0, locals := 0 }
set_option maxHeartbeats 16000000 in
set_option maxRecDepth 200000 in
theorem kL_lay (l : Launch) (D : va_G) (cI cZ cL : ClassId) (sz0 : Nat) (h_t h_m h_g : Nat) (ft : Nat → Int32) (fm : Nat → Int32) (fg : Nat → Int32) (p3 : Int32) (N : Nat) {r_0 : Nat → Int32} (h : fL_lay N ft fm fg p3 = some r_0) : Met l yL_lay wsL_lay rmL_lay (PM D cI cZ cL [.ref h_t, .ref h_m, .ref h_g, .int p3] [(h_t, .inl (cI, 24, .inl ft)), (h_m, .inl (cI, 16, .inl fm)), (h_g, .inl (cI, 7, .inl fg))] sz0) (QM D none (va_A [(h_t, .inl (cI, 24, .inl ft)), (h_m, .inl (cI, 16, .inl fm)), (h_g, .inl (cI, 7, .inl fg))] sz0) [(h_t, .inl (cI, 24, .inl ft)), (h_m, .inl (cI, 16, .inl r_0)), (h_g, .inl (cI, 7, .inl fg))]) 0 0 (va_A [(h_t, .inl (cI, 24, .inl ft)), (h_m, .inl (cI, 16, .inl fm)), (h_g, .inl (cI, 7, .inl fg))] sz0) := by
  refine Met.ofW (cc := cL_lay) (maxL := 7) (ret := none) (by decide) rfl ?_
  intro p e s m args below meth c s₁ B hml hv
  obtain ⟨rfl, hsz, hP, hKK, hD0⟩ := hv
  have hK := hKK.1
  have hx := B.exec
  have hb := B.bytes
  have hr := B.returns
  have hts := atoms_spec (ws := wsL_lay) B.pre
  have hown : s.vm.findClass RL = some m.cls := findClass_of_methodNamed B.named
  have hlocks := B.notSynchronized
  subst hsz
  have hD := hD0.self (sz := s.heap.size)
  generalize hAe : va_A [(h_t, .inl (cI, 24, .inl ft)), (h_m, .inl (cI, 16, .inl fm)), (h_g, .inl (cI, 7, .inl fg))] s.heap.size = A at hD ⊢
  have hA : ∀ q : Nat, s.heap.size ≤ q → A q := fun q h => by rw [← hAe]; exact Or.inr h
  have hS : va_S A s.heap s.heap [] := va_S.rf
  have hl := lv_entry ([.ref h_t, .ref h_m, .ref h_g, .int p3]) (n := 7) (Nat.le_of_ble_eq_true rfl)
  rw [lg_entry_eq]
  generalize (lg_sl ([.ref h_t, .ref h_m, .ref h_g, .int p3]) ++ List.replicate (7 - (lg_sl ([.ref h_t, .ref h_m, .ref h_g, .int p3])).length) Slot.unset).toArray = ls at hl ⊢
  have hl : lv_has ls 7 [(0, .ref h_t), (1, .ref h_m), (2, .ref h_g), (3, .int p3)] := hl
  obtain ⟨QQ, hQQ⟩ : ∃ Z, Z = MQ below (QM D none A [(h_t, .inl (cI, 24, .inl ft)), (h_m, .inl (cI, 16, .inl r_0)), (h_g, .inl (cI, 7, .inl fg))]) ([.ref h_t, .ref h_m, .ref h_g, .int p3] : List Value).toArray s 0 0 A := ⟨_, rfl⟩
  rw [← hQQ]
  obtain ⟨H, locs, hHe, hLe⟩ : ∃ (H : Heap) (locs : List Loc), H = s.heap ∧ locs = [] := ⟨_, _, rfl, rfl⟩
  have hP : va_P D vwCl [(h_t, .inl (cI, 24, .inl ft)), (h_m, .inl (cI, 16, .inl fm)), (h_g, .inl (cI, 7, .inl fg))] H := by rw [hHe]; exact hP
  have hS : va_S A s.heap H locs := by rw [hHe, hLe]; exact hS
  have hW0 : ∀ QQ : State → Prop, W p l e (headSpec wsL_lay rmL_lay).room s m (([.ref h_t, .ref h_m, .ref h_g, .int p3] : List Value).toArray) below meth c H locs 0 0 QQ (F0 m 0 ls []) → W p l e (headSpec wsL_lay rmL_lay).room s m (([.ref h_t, .ref h_m, .ref h_g, .int p3] : List Value).toArray) below meth c s.heap [] 0 0 QQ (F0 m 0 ls []) := by rw [hHe, hLe]; exact fun _ h => h
  refine hW0 _ ?_
  clear hW0
  unfold fL_lay at h
  refine lv_iconst (v := 0) hx hb dL_lay_0 (by decide) ?_
  refine lv_istore (lv' := [(4, .int 0), (0, .ref h_t), (1, .ref h_m), (2, .ref h_g), (3, .int p3)]) hx hb dL_lay_1 hl (by decide) rfl (fun ls hl => ?_)
  refine it2_e (fun (x1 : Int32) (w2 : Nat → Int32) => ∀ (H : Heap) (locs : List Loc) (ls : Array Slot), va_P D vwCl [(h_t, .inl (cI, 24, .inl ft)), (h_m, .inl (cI, 16, .inl w2)), (h_g, .inl (cI, 7, .inl fg))] H → va_D A [(h_t, .inl (cI, 24, .inl ft)), (h_m, .inl (cI, 16, .inl w2)), (h_g, .inl (cI, 7, .inl fg))] → va_S A s.heap H locs → lv_has ls 7 [(4, .int x1), (0, .ref h_t), (1, .ref h_m), (2, .ref h_g), (3, .int p3)] → W p l e (headSpec wsL_lay rmL_lay).room s m (([.ref h_t, .ref h_m, .ref h_g, .int p3] : List Value).toArray) below meth c H locs (0) (0) QQ (F0 m 3 ls [])) (fun g3_3 hg3_4 x1 w2 h H locs ls hP hD hS hl => ?_) N 0 fm h H locs ls hP hD hS (lv_sub hl [0, 1, 2, 3, 4] rfl)
  refine lv_iload hx hb dL_lay_3 (lv_at hl 0 rfl) ?_
  refine lv_aload_n hx hb dL_lay_5 rfl (lv_at hl 3 rfl) ?_
  refine lv_iconst (v := 0) hx hb dL_lay_6 (by decide) ?_
  refine va_iald hx hb hK hP 2 0 rfl rfl (by unfold vp_in; decide) dL_lay_7 ?_
  refine lv_icmp_ge (tgt := 25) hx hb dL_lay_8 (by decide) (fun c5 => ?_) (fun c5 => ?_)
  · have h := it_t h c5
    refine lv_iconst (v := 0) hx hb dL_lay_25 (by decide) ?_
    refine lv_istore (lv' := [(4, .int 0), (0, .ref h_t), (1, .ref h_m), (2, .ref h_g), (3, .int p3)]) hx hb dL_lay_26 hl (by decide) rfl (fun ls hl => ?_)
    refine it2_e (fun (x6 : Int32) (w7 : Nat → Int32) => ∀ (H : Heap) (locs : List Loc) (ls : Array Slot), va_P D vwCl [(h_t, .inl (cI, 24, .inl ft)), (h_m, .inl (cI, 16, .inl w7)), (h_g, .inl (cI, 7, .inl fg))] H → va_D A [(h_t, .inl (cI, 24, .inl ft)), (h_m, .inl (cI, 16, .inl w7)), (h_g, .inl (cI, 7, .inl fg))] → va_S A s.heap H locs → lv_has ls 7 [(4, .int x6), (0, .ref h_t), (1, .ref h_m), (2, .ref h_g), (3, .int p3)] → W p l e (headSpec wsL_lay rmL_lay).room s m (([.ref h_t, .ref h_m, .ref h_g, .int p3] : List Value).toArray) below meth c H locs (0) (0) QQ (F0 m 28 ls [])) (fun g28_8 hg28_9 x6 w7 h H locs ls hP hD hS hl => ?_) N 0 w2 h H locs ls hP hD hS (lv_sub hl [0, 1, 2, 3, 4] rfl)
    refine lv_iload hx hb dL_lay_28 (lv_at hl 0 rfl) ?_
    refine lv_aload_n hx hb dL_lay_30 rfl (lv_at hl 3 rfl) ?_
    refine lv_iconst (v := 1) hx hb dL_lay_31 (by decide) ?_
    refine va_iald hx hb hK hP 2 0 rfl rfl (by unfold vp_in; decide) dL_lay_32 ?_
    refine lv_icmp_ge (tgt := 111) hx hb dL_lay_33 (by decide) (fun c10 => ?_) (fun c10 => ?_)
    · have h := it_t h c10
      cases h
      rw [hQQ]
      exact W.vret hx hb hr (fun t ht hW => ⟨rfl, by rw [ht]; exact hP, hD, hS.F ht⟩) hS.2.2 dL_lay_111
    · have h := it_f h c10
      refine lv_iload_n hx hb dL_lay_36 rfl (lv_at hl 4 rfl) ?_
      refine lv_iload hx hb dL_lay_37 (lv_at hl 0 rfl) ?_
      refine lv_ishr hx hb dL_lay_39 ?_
      refine lv_iconst (v := 1) hx hb dL_lay_40 (by decide) ?_
      refine lv_iand hx hb dL_lay_41 ?_
      refine lv_if_ne (tgt := 48) hx hb dL_lay_42 (by decide) (fun c11 => ?_) (fun c11 => ?_)
      · have h := it_f h c11
        refine lv_aload_n hx hb dL_lay_48 rfl (lv_at hl 2 rfl) ?_
        refine lv_aload_n hx hb dL_lay_49 rfl (lv_at hl 1 rfl) ?_
        refine lv_iload hx hb dL_lay_50 (lv_at hl 0 rfl) ?_
        obtain ⟨hi12, h⟩ := gin_e h
        refine va_iald hx hb hK hP 0 0 rfl rfl hi12 dL_lay_52 ?_
        refine lv_bipush (v := 15) hx hb dL_lay_53 (by decide) ?_
        refine lv_iand hx hb dL_lay_55 ?_
        obtain ⟨hi13, h⟩ := gin_e h
        refine va_iald hx hb hK hP 1 0 rfl rfl hi13 dL_lay_56 ?_
        refine lv_aload_n hx hb dL_lay_57 rfl (lv_at hl 2 rfl) ?_
        refine lv_aload_n hx hb dL_lay_58 rfl (lv_at hl 1 rfl) ?_
        refine lv_iload hx hb dL_lay_59 (lv_at hl 0 rfl) ?_
        obtain ⟨hi14, h⟩ := gin_e h
        refine va_iald hx hb hK hP 0 0 rfl rfl hi14 dL_lay_61 ?_
        refine lv_iconst (v := 4) hx hb dL_lay_62 (by decide) ?_
        refine lv_ishr hx hb dL_lay_63 ?_
        refine lv_bipush (v := 15) hx hb dL_lay_64 (by decide) ?_
        refine lv_iand hx hb dL_lay_66 ?_
        obtain ⟨hi15, h⟩ := gin_e h
        refine va_iald hx hb hK hP 1 0 rfl rfl hi15 dL_lay_67 ?_
        refine lv_ior hx hb dL_lay_68 ?_
        refine lv_istore (lv' := [(5, .int ((w7 ((ft x6.toNatClampNeg) &&& 15).toNatClampNeg) ||| (w7 (((ft x6.toNatClampNeg) >>> (4 &&& 31)) &&& 15).toNatClampNeg))), (4, .int x6), (0, .ref h_t), (1, .ref h_m), (2, .ref h_g), (3, .int p3)]) hx hb dL_lay_69 hl (by decide) rfl (fun ls hl => ?_)
        refine lv_iconst (v := 0) hx hb dL_lay_71 (by decide) ?_
        refine lv_istore (lv' := [(6, .int 0), (5, .int ((w7 ((ft x6.toNatClampNeg) &&& 15).toNatClampNeg) ||| (w7 (((ft x6.toNatClampNeg) >>> (4 &&& 31)) &&& 15).toNatClampNeg))), (4, .int x6), (0, .ref h_t), (1, .ref h_m), (2, .ref h_g), (3, .int p3)]) hx hb dL_lay_72 hl (by decide) rfl (fun ls hl => ?_)
        refine it2_e (fun (x16 : Int32) (w17 : Nat → Int32) => ∀ (H : Heap) (locs : List Loc) (ls : Array Slot), va_P D vwCl [(h_t, .inl (cI, 24, .inl ft)), (h_m, .inl (cI, 16, .inl w17)), (h_g, .inl (cI, 7, .inl fg))] H → va_D A [(h_t, .inl (cI, 24, .inl ft)), (h_m, .inl (cI, 16, .inl w17)), (h_g, .inl (cI, 7, .inl fg))] → va_S A s.heap H locs → lv_has ls 7 [(6, .int x16), (5, .int ((w7 ((ft x6.toNatClampNeg) &&& 15).toNatClampNeg) ||| (w7 (((ft x6.toNatClampNeg) >>> (4 &&& 31)) &&& 15).toNatClampNeg))), (4, .int x6), (0, .ref h_t), (1, .ref h_m), (2, .ref h_g), (3, .int p3)] → W p l e (headSpec wsL_lay rmL_lay).room s m (([.ref h_t, .ref h_m, .ref h_g, .int p3] : List Value).toArray) below meth c H locs (0) (0) QQ (F0 m 74 ls [])) (fun g74_18 hg74_19 x16 w17 h H locs ls hP hD hS hl => ?_) N 0 w7 h H locs ls hP hD hS (lv_sub hl [0, 1, 2, 3, 4, 5, 6] rfl)
        refine lv_iload hx hb dL_lay_74 (lv_at hl 0 rfl) ?_
        refine lv_aload_n hx hb dL_lay_76 rfl (lv_at hl 5 rfl) ?_
        refine lv_iconst (v := 0) hx hb dL_lay_77 (by decide) ?_
        refine va_iald hx hb hK hP 2 0 rfl rfl (by unfold vp_in; decide) dL_lay_78 ?_
        refine lv_icmp_ge (tgt := 105) hx hb dL_lay_79 (by decide) (fun c20 => ?_) (fun c20 => ?_)
        · have h := it_t h c20
          refine lv_iinc (v := x6 + 1) (lv' := [(4, .int (x6 + 1)), (6, .int x16), (5, .int ((w7 ((ft x6.toNatClampNeg) &&& 15).toNatClampNeg) ||| (w7 (((ft x6.toNatClampNeg) >>> (4 &&& 31)) &&& 15).toNatClampNeg))), (0, .ref h_t), (1, .ref h_m), (2, .ref h_g), (3, .int p3)]) hx hb dL_lay_105 hl (k := 2) rfl rfl (by decide) rfl (fun ls hl => ?_)
          refine lv_goto (tgt := 28) hx hb dL_lay_108 (by decide) ?_
          exact hg28_9 (x6 + 1) w17 h H locs ls hP hD hS (lv_sub hl [0, 3, 4, 5, 6] rfl)
        · have h := it_f h c20
          refine lv_iload hx hb dL_lay_82 (lv_at hl 1 rfl) ?_
          refine lv_iload hx hb dL_lay_84 (lv_at hl 0 rfl) ?_
          refine lv_ishr hx hb dL_lay_86 ?_
          refine lv_iconst (v := 1) hx hb dL_lay_87 (by decide) ?_
          refine lv_iand hx hb dL_lay_88 ?_
          refine lv_iconst (v := 1) hx hb dL_lay_89 (by decide) ?_
          refine lv_icmp_ne (tgt := 99) hx hb dL_lay_90 (by decide) (fun c21 => ?_) (fun c21 => ?_)
          · have h := it_f h c21
            refine lv_iinc (v := x16 + 1) (lv' := [(6, .int (x16 + 1)), (5, .int ((w7 ((ft x6.toNatClampNeg) &&& 15).toNatClampNeg) ||| (w7 (((ft x6.toNatClampNeg) >>> (4 &&& 31)) &&& 15).toNatClampNeg))), (4, .int x6), (0, .ref h_t), (1, .ref h_m), (2, .ref h_g), (3, .int p3)]) hx hb dL_lay_99 hl (k := 0) rfl rfl (by decide) rfl (fun ls hl => ?_)
            refine lv_goto (tgt := 74) hx hb dL_lay_102 (by decide) ?_
            exact hg74_19 (x16 + 1) w17 h H locs ls hP hD hS (lv_sub hl [0, 1, 2, 3, 4, 5, 6] rfl)
          · have h := it_t h c21
            refine lv_aload_n hx hb dL_lay_93 rfl (lv_at hl 4 rfl) ?_
            refine lv_iload hx hb dL_lay_94 (lv_at hl 0 rfl) ?_
            refine lv_iload hx hb dL_lay_96 (lv_at hl 1 rfl) ?_
            obtain ⟨hi22, h⟩ := gin_e h
            refine va_iast hx hb hK hP hD hS 1 0 rfl rfl hi22 dL_lay_98 (fun H locs hP hD hS => ?_)
            have hP : va_P D vwCl [(h_t, .inl (cI, 24, .inl ft)), (h_m, .inl (cI, 16, .inl (upd w17 x16.toNatClampNeg ((w7 ((ft x6.toNatClampNeg) &&& 15).toNatClampNeg) ||| (w7 (((ft x6.toNatClampNeg) >>> (4 &&& 31)) &&& 15).toNatClampNeg))))), (h_g, .inl (cI, 7, .inl fg))] H := hP
            have hD : va_D A [(h_t, .inl (cI, 24, .inl ft)), (h_m, .inl (cI, 16, .inl (upd w17 x16.toNatClampNeg ((w7 ((ft x6.toNatClampNeg) &&& 15).toNatClampNeg) ||| (w7 (((ft x6.toNatClampNeg) >>> (4 &&& 31)) &&& 15).toNatClampNeg))))), (h_g, .inl (cI, 7, .inl fg))] := hD
            refine lv_iinc (v := x16 + 1) (lv' := [(6, .int (x16 + 1)), (5, .int ((w7 ((ft x6.toNatClampNeg) &&& 15).toNatClampNeg) ||| (w7 (((ft x6.toNatClampNeg) >>> (4 &&& 31)) &&& 15).toNatClampNeg))), (4, .int x6), (0, .ref h_t), (1, .ref h_m), (2, .ref h_g), (3, .int p3)]) hx hb dL_lay_99 hl (k := 0) rfl rfl (by decide) rfl (fun ls hl => ?_)
            refine lv_goto (tgt := 74) hx hb dL_lay_102 (by decide) ?_
            exact hg74_19 (x16 + 1) (upd w17 x16.toNatClampNeg ((w7 ((ft x6.toNatClampNeg) &&& 15).toNatClampNeg) ||| (w7 (((ft x6.toNatClampNeg) >>> (4 &&& 31)) &&& 15).toNatClampNeg))) h H locs ls hP hD hS (lv_sub hl [0, 1, 2, 3, 4, 5, 6] rfl)
      · have h := it_t h c11
        refine lv_goto (tgt := 105) hx hb dL_lay_45 (by decide) ?_
        refine lv_iinc (v := x6 + 1) (lv' := [(4, .int (x6 + 1)), (0, .ref h_t), (1, .ref h_m), (2, .ref h_g), (3, .int p3)]) hx hb dL_lay_105 hl (k := 0) rfl rfl (by decide) rfl (fun ls hl => ?_)
        refine lv_goto (tgt := 28) hx hb dL_lay_108 (by decide) ?_
        exact hg28_9 (x6 + 1) w7 h H locs ls hP hD hS (lv_sub hl [0, 1, 2, 3, 4] rfl)
  · have h := it_f h c5
    refine lv_aload_n hx hb dL_lay_11 rfl (lv_at hl 2 rfl) ?_
    refine lv_iload hx hb dL_lay_12 (lv_at hl 0 rfl) ?_
    refine lv_iconst (v := 1) hx hb dL_lay_14 (by decide) ?_
    refine lv_iload hx hb dL_lay_15 (lv_at hl 0 rfl) ?_
    refine lv_ishl hx hb dL_lay_17 ?_
    obtain ⟨hi23, h⟩ := gin_e h
    refine va_iast hx hb hK hP hD hS 1 0 rfl rfl hi23 dL_lay_18 (fun H locs hP hD hS => ?_)
    have hP : va_P D vwCl [(h_t, .inl (cI, 24, .inl ft)), (h_m, .inl (cI, 16, .inl (upd w2 x1.toNatClampNeg ((1 : Int32) <<< (x1 &&& 31))))), (h_g, .inl (cI, 7, .inl fg))] H := hP
    have hD : va_D A [(h_t, .inl (cI, 24, .inl ft)), (h_m, .inl (cI, 16, .inl (upd w2 x1.toNatClampNeg ((1 : Int32) <<< (x1 &&& 31))))), (h_g, .inl (cI, 7, .inl fg))] := hD
    refine lv_iinc (v := x1 + 1) (lv' := [(4, .int (x1 + 1)), (0, .ref h_t), (1, .ref h_m), (2, .ref h_g), (3, .int p3)]) hx hb dL_lay_19 hl (k := 0) rfl rfl (by decide) rfl (fun ls hl => ?_)
    refine lv_goto (tgt := 3) hx hb dL_lay_22 (by decide) ?_
    exact hg3_4 (x1 + 1) (upd w2 x1.toNatClampNeg ((1 : Int32) <<< (x1 &&& 31))) h H locs ls hP hD hS (lv_sub hl [0, 1, 2, 3, 4] rfl)

def fL_why_391 (N : Nat) (p5 : Int32) (ft : Nat → Int32) (w41 : Nat → Int32) (fg : Nat → Int32) (w42 : Nat → Int32) (v17 : Int32) : Option ((Int32) × (Nat → Int32) × (Nat → Int32)) :=
  gin ((p5 / 100) / 2) 3 (gin ((p5 / 100) / 2) 3 (bd1 (fL_lay N ft w41 fg ((upd w42 ((p5 / 100) / 2).toNatClampNeg ((w42 ((p5 / 100) / 2).toNatClampNeg) ^^^ ((1 : Int32) <<< ((p5 - p5 / 100 * 100) &&& 31)))) 0)) (fun w48 => bd1 (fL_with N w48 fg ((upd w42 ((p5 / 100) / 2).toNatClampNeg ((w42 ((p5 / 100) / 2).toNatClampNeg) ^^^ ((1 : Int32) <<< ((p5 - p5 / 100 * 100) &&& 31)))) 1)) (fun v49 => jn1 (fun (y51 : Int32) => gin ((p5 / 100) / 2) 3 ((if y51 = 0 then some (4, w48, upd (upd w42 ((p5 / 100) / 2).toNatClampNeg ((w42 ((p5 / 100) / 2).toNatClampNeg) ^^^ ((1 : Int32) <<< ((p5 - p5 / 100 * 100) &&& 31)))) ((p5 / 100) / 2).toNatClampNeg (w42 ((p5 / 100) / 2).toNatClampNeg)) else some (0, w48, upd (upd w42 ((p5 / 100) / 2).toNatClampNeg ((w42 ((p5 / 100) / 2).toNatClampNeg) ^^^ ((1 : Int32) <<< ((p5 - p5 / 100 * 100) &&& 31)))) ((p5 / 100) / 2).toNatClampNeg (w42 ((p5 / 100) / 2).toNatClampNeg))))) (fun g461_52 => (if (v17 &&& (v49 ^^^ (-1))) = 0 then bd1 (fL_with N w48 fg ((upd w42 ((p5 / 100) / 2).toNatClampNeg ((w42 ((p5 / 100) / 2).toNatClampNeg) ^^^ ((1 : Int32) <<< ((p5 - p5 / 100 * 100) &&& 31)))) 2)) (fun v57 => (if (v17 &&& v57) = 0 then g461_52 1 else g461_52 0)) else g461_52 0))))))
def fL_why_327 (N : Nat) (p5 : Int32) (ft : Nat → Int32) (fg : Nat → Int32) (v17 : Int32) (y34 : Int32) (w37 : Nat → Int32) (w38 : Nat → Int32) (y11 : Int32) (y14 : Int32) : Option ((Int32) × (Nat → Int32) × (Nat → Int32)) :=
  jn2 (fun (w41 : Nat → Int32) (w42 : Nat → Int32) => fL_why_391 N p5 ft w41 fg w42 v17) (fun g391_43 => (if y34 = 0 then g391_43 w37 w38 else (if (p5 / 100) = 1 then gin y11 16 ((if (((w37 y11.toNatClampNeg) >>> (y14 &&& 31)) &&& 1) = 0 then bd1 (fL_lay N ft w37 fg ((w38 0) ||| ((1 : Int32) <<< ((p5 - p5 / 100 * 100) &&& 31)))) (fun w65 => bd1 (fL_with N w65 fg (w38 2)) (fun v66 => bd1 (fL_with N w65 fg (fg 3)) (fun v68 => (if ((v66 &&& v68) &&& (((1 : Int32) <<< (y11 &&& 31)) ||| ((1 : Int32) <<< (y14 &&& 31)))) = 0 then g391_43 w65 w38 else some (3, w65, w38))))) else g391_43 w37 w38)) else g391_43 w37 w38)))
def fL_why_278 (N : Nat) (p5 : Int32) (ft : Nat → Int32) (fg : Nat → Int32) (v17 : Int32) (y34 : Int32) (y11 : Int32) (y14 : Int32) (w21 : Nat → Int32) (fd : Nat → Int32) (v22 : Int32) (v26 : Int32) : Option ((Int32) × (Nat → Int32) × (Nat → Int32)) :=
  jn2 (fun (w37 : Nat → Int32) (w38 : Nat → Int32) => fL_why_327 N p5 ft fg v17 y34 w37 w38 y11 y14) (fun g327_39 => (if y34 = 0 then g327_39 w21 fd else (if (p5 / 100) = 0 then (if ((v22 &&& v26) &&& (((1 : Int32) <<< (y11 &&& 31)) ||| ((1 : Int32) <<< (y14 &&& 31)))) = 0 then g327_39 w21 fd else bd1 (fL_lay N ft w21 fg ((fd 0) ^^^ ((1 : Int32) <<< ((p5 - p5 / 100 * 100) &&& 31)))) (fun w75 => gin y11 16 ((if (((w75 y11.toNatClampNeg) >>> (y14 &&& 31)) &&& 1) = 0 then some (3, w75, fd) else g327_39 w75 fd)))) else g327_39 w21 fd)))
def fL_why_257 (N : Nat) (p5 : Int32) (ft : Nat → Int32) (fg : Nat → Int32) (v17 : Int32) (y11 : Int32) (y14 : Int32) (w21 : Nat → Int32) (fd : Nat → Int32) (v22 : Int32) (v26 : Int32) : Option ((Int32) × (Nat → Int32) × (Nat → Int32)) :=
  jn1 (fun (y34 : Int32) => fL_why_278 N p5 ft fg v17 y34 y11 y14 w21 fd v22 v26) (fun g278_35 => (if 2 ≤ (p5 / 100) then g278_35 0 else gin (p5 - p5 / 100 * 100) 24 ((if 256 ≤ (ft (p5 - p5 / 100 * 100).toNatClampNeg) then g278_35 0 else g278_35 1))))
def fL_why_158 (N : Nat) (ft : Nat → Int32) (fm : Nat → Int32) (fg : Nat → Int32) (fd : Nat → Int32) (p5 : Int32) (v17 : Int32) (y11 : Int32) (y14 : Int32) : Option ((Int32) × (Nat → Int32) × (Nat → Int32)) :=
  bd1 (fL_lay N ft fm fg (fd 0)) (fun w21 => bd1 (fL_with N w21 fg (fd 2)) (fun v22 => bd1 (fL_with N w21 fg (fd 1)) (fun v24 => bd1 (fL_with N w21 fg (fg 3)) (fun v26 => jn0 (jn0 (jn0 (fL_why_257 N p5 ft fg v17 y11 y14 w21 fd v22 v26) (fun g257_32 => (if (p5 / 100) = 4 then (if (v24 &&& (((1 : Int32) <<< (y11 &&& 31)) ||| ((1 : Int32) <<< (y14 &&& 31)))) = 0 then g257_32 else some (3, w21, fd)) else g257_32))) (fun g241_30 => (if (p5 / 100) = 2 then (if (v22 &&& (((1 : Int32) <<< (y11 &&& 31)) ||| ((1 : Int32) <<< (y14 &&& 31)))) = 0 then g241_30 else some (3, w21, fd)) else g241_30))) (fun g227_28 => (if (p5 / 100) = 1 then (if (v22 &&& (((1 : Int32) <<< (y11 &&& 31)) ||| ((1 : Int32) <<< (y14 &&& 31)))) = 0 then g227_28 else (if (v24 &&& (((1 : Int32) <<< (y11 &&& 31)) ||| ((1 : Int32) <<< (y14 &&& 31)))) = 0 then g227_28 else some (3, w21, fd))) else g227_28))))))
def fL_why_88 (N : Nat) (fh : Nat → Int32) (fg : Nat → Int32) (ft : Nat → Int32) (fm : Nat → Int32) (fd : Nat → Int32) (p5 : Int32) : Option ((Int32) × (Nat → Int32) × (Nat → Int32)) :=
  jn1 (fun (y11 : Int32) => jn1 (fun (y14 : Int32) => bd1 (fL_held N fh fg) (fun v17 => (if ((((1 : Int32) <<< (y11 &&& 31)) ||| ((1 : Int32) <<< (y14 &&& 31))) &&& v17) = 0 then fL_why_158 N ft fm fg fd p5 v17 y11 y14 else some (2, fm, fd)))) (fun g128_15 => (if 2 ≤ (p5 / 100) then g128_15 (p5 - p5 / 100 * 100) else gin (p5 - p5 / 100 * 100) 24 (g128_15 (((ft (p5 - p5 / 100 * 100).toNatClampNeg) >>> (4 &&& 31)) &&& 15))))) (fun g106_12 => (if 2 ≤ (p5 / 100) then g106_12 (p5 - p5 / 100 * 100) else gin (p5 - p5 / 100 * 100) 24 (g106_12 ((ft (p5 - p5 / 100 * 100).toNatClampNeg) &&& 15))))
def fL_why (N : Nat) (ft : Nat → Int32) (fm : Nat → Int32) (fh : Nat → Int32) (fg : Nat → Int32) (fd : Nat → Int32) (p5 : Int32) : Option ((Int32) × (Nat → Int32) × (Nat → Int32)) :=
  gin ((p5 / 100) / 2) 3 (jn1 (fun (y2 : Int32) => jn1 (fun (y5 : Int32) => (if y2 = y5 then some (1, fm, fd) else jn0 (fL_why_88 N fh fg ft fm fd p5) (fun g88_9 => (if (p5 / 100) ≤ 3 then g88_9 else (if (((fg 2) >>> ((p5 - p5 / 100 * 100) &&& 31)) &&& 1) = 0 then some (1, fm, fd) else g88_9))))) (fun g60_6 => (if (p5 / 100) = 1 then g60_6 1 else (if (p5 / 100) = 2 then g60_6 1 else (if (p5 / 100) = 4 then g60_6 1 else g60_6 0))))) (fun g35_3 => (if (((fd ((p5 / 100) / 2).toNatClampNeg) >>> ((p5 - p5 / 100 * 100) &&& 31)) &&& 1) = 1 then g35_3 1 else g35_3 0)))
abbrev rmL_why : Room := { frames := 1, cells := 0, slots := 0, locals := 26 }
set_option maxHeartbeats 16000000 in
set_option maxRecDepth 200000 in
theorem kL_why (l : Launch) (D : va_G) (cI cZ cL : ClassId) (sz0 : Nat) (h_t h_m h_h h_g h_d : Nat) (ft : Nat → Int32) (fm : Nat → Int32) (fh : Nat → Int32) (fg : Nat → Int32) (fd : Nat → Int32) (p5 : Int32) (N : Nat) {r : Int32} {r_0 : Nat → Int32} {r_1 : Nat → Int32} (h : fL_why N ft fm fh fg fd p5 = some (r, r_0, r_1)) : Met l yL_why wsL_why rmL_why (PM D cI cZ cL [.ref h_t, .ref h_m, .ref h_h, .ref h_g, .ref h_d, .int p5] [(h_t, .inl (cI, 24, .inl ft)), (h_m, .inl (cI, 16, .inl fm)), (h_h, .inl (cI, 10, .inl fh)), (h_g, .inl (cI, 7, .inl fg)), (h_d, .inl (cI, 3, .inl fd))] sz0) (QM D (some (.int r)) (va_A [(h_t, .inl (cI, 24, .inl ft)), (h_m, .inl (cI, 16, .inl fm)), (h_h, .inl (cI, 10, .inl fh)), (h_g, .inl (cI, 7, .inl fg)), (h_d, .inl (cI, 3, .inl fd))] sz0) [(h_t, .inl (cI, 24, .inl ft)), (h_m, .inl (cI, 16, .inl r_0)), (h_h, .inl (cI, 10, .inl fh)), (h_g, .inl (cI, 7, .inl fg)), (h_d, .inl (cI, 3, .inl r_1))]) 0 0 (va_A [(h_t, .inl (cI, 24, .inl ft)), (h_m, .inl (cI, 16, .inl fm)), (h_h, .inl (cI, 10, .inl fh)), (h_g, .inl (cI, 7, .inl fg)), (h_d, .inl (cI, 3, .inl fd))] sz0) := by
  refine Met.ofW (cc := cL_why) (maxL := 20) (ret := (some .int)) (by decide) rfl ?_
  intro p e s m args below meth c s₁ B hml hv
  obtain ⟨rfl, hsz, hP, hKK, hD0⟩ := hv
  have hK := hKK.1
  have hx := B.exec
  have hb := B.bytes
  have hr := B.returns
  have hts := atoms_spec (ws := wsL_why) B.pre
  have hown : s.vm.findClass RL = some m.cls := findClass_of_methodNamed B.named
  have hlocks := B.notSynchronized
  subst hsz
  have hD := hD0.self (sz := s.heap.size)
  generalize hAe : va_A [(h_t, .inl (cI, 24, .inl ft)), (h_m, .inl (cI, 16, .inl fm)), (h_h, .inl (cI, 10, .inl fh)), (h_g, .inl (cI, 7, .inl fg)), (h_d, .inl (cI, 3, .inl fd))] s.heap.size = A at hD ⊢
  have hA : ∀ q : Nat, s.heap.size ≤ q → A q := fun q h => by rw [← hAe]; exact Or.inr h
  have hS : va_S A s.heap s.heap [] := va_S.rf
  have hl := lv_entry ([.ref h_t, .ref h_m, .ref h_h, .ref h_g, .ref h_d, .int p5]) (n := 20) (Nat.le_of_ble_eq_true rfl)
  rw [lg_entry_eq]
  generalize (lg_sl ([.ref h_t, .ref h_m, .ref h_h, .ref h_g, .ref h_d, .int p5]) ++ List.replicate (20 - (lg_sl ([.ref h_t, .ref h_m, .ref h_h, .ref h_g, .ref h_d, .int p5])).length) Slot.unset).toArray = ls at hl ⊢
  have hl : lv_has ls 20 [(0, .ref h_t), (1, .ref h_m), (2, .ref h_h), (3, .ref h_g), (4, .ref h_d), (5, .int p5)] := hl
  obtain ⟨QQ, hQQ⟩ : ∃ Z, Z = MQ below (QM D (some (.int r)) A [(h_t, .inl (cI, 24, .inl ft)), (h_m, .inl (cI, 16, .inl r_0)), (h_h, .inl (cI, 10, .inl fh)), (h_g, .inl (cI, 7, .inl fg)), (h_d, .inl (cI, 3, .inl r_1))]) ([.ref h_t, .ref h_m, .ref h_h, .ref h_g, .ref h_d, .int p5] : List Value).toArray s 0 0 A := ⟨_, rfl⟩
  rw [← hQQ]
  obtain ⟨H, locs, hHe, hLe⟩ : ∃ (H : Heap) (locs : List Loc), H = s.heap ∧ locs = [] := ⟨_, _, rfl, rfl⟩
  have hP : va_P D vwCl [(h_t, .inl (cI, 24, .inl ft)), (h_m, .inl (cI, 16, .inl fm)), (h_h, .inl (cI, 10, .inl fh)), (h_g, .inl (cI, 7, .inl fg)), (h_d, .inl (cI, 3, .inl fd))] H := by rw [hHe]; exact hP
  have hS : va_S A s.heap H locs := by rw [hHe, hLe]; exact hS
  have hW0 : ∀ QQ : State → Prop, W p l e (headSpec wsL_why rmL_why).room s m (([.ref h_t, .ref h_m, .ref h_h, .ref h_g, .ref h_d, .int p5] : List Value).toArray) below meth c H locs 0 0 QQ (F0 m 0 ls []) → W p l e (headSpec wsL_why rmL_why).room s m (([.ref h_t, .ref h_m, .ref h_h, .ref h_g, .ref h_d, .int p5] : List Value).toArray) below meth c s.heap [] 0 0 QQ (F0 m 0 ls []) := by rw [hHe, hLe]; exact fun _ h => h
  refine hW0 _ ?_
  clear hW0
  unfold fL_why at h
  refine lv_iload hx hb dL_why_0 (lv_at hl 5 rfl) ?_
  refine lv_bipush (v := 100) hx hb dL_why_2 (by decide) ?_
  refine lv_idiv hx hb dL_why_4 (by decide) ?_
  refine lv_istore (lv' := [(6, .int (p5 / 100)), (0, .ref h_t), (1, .ref h_m), (2, .ref h_h), (3, .ref h_g), (4, .ref h_d), (5, .int p5)]) hx hb dL_why_5 hl (by decide) rfl (fun ls hl => ?_)
  refine lv_iload hx hb dL_why_7 (lv_at hl 6 rfl) ?_
  refine lv_bipush (v := 100) hx hb dL_why_9 (by decide) ?_
  refine lv_irem hx hb dL_why_11 (by decide) ?_
  refine lv_istore (lv' := [(7, .int (p5 - p5 / 100 * 100)), (6, .int (p5 / 100)), (0, .ref h_t), (1, .ref h_m), (2, .ref h_h), (3, .ref h_g), (4, .ref h_d), (5, .int p5)]) hx hb dL_why_12 hl (by decide) rfl (fun ls hl => ?_)
  refine lv_aload hx hb dL_why_14 (lv_at hl 6 rfl) ?_
  refine lv_iload hx hb dL_why_16 (lv_at hl 1 rfl) ?_
  refine lv_iconst (v := 2) hx hb dL_why_18 (by decide) ?_
  refine lv_idiv hx hb dL_why_19 (by decide) ?_
  obtain ⟨hi1, h⟩ := gin_e h
  refine va_iald hx hb hK hP 4 0 rfl rfl hi1 dL_why_20 ?_
  refine lv_iload hx hb dL_why_21 (lv_at hl 0 rfl) ?_
  refine lv_ishr hx hb dL_why_23 ?_
  refine lv_iconst (v := 1) hx hb dL_why_24 (by decide) ?_
  refine lv_iand hx hb dL_why_25 ?_
  refine lv_iconst (v := 1) hx hb dL_why_26 (by decide) ?_
  refine jn1_e (fun (y2 : Int32) => ∀ (H : Heap) (locs : List Loc) (ls : Array Slot), va_P D vwCl [(h_t, .inl (cI, 24, .inl ft)), (h_m, .inl (cI, 16, .inl fm)), (h_h, .inl (cI, 10, .inl fh)), (h_g, .inl (cI, 7, .inl fg)), (h_d, .inl (cI, 3, .inl fd))] H → va_D A [(h_t, .inl (cI, 24, .inl ft)), (h_m, .inl (cI, 16, .inl fm)), (h_h, .inl (cI, 10, .inl fh)), (h_g, .inl (cI, 7, .inl fg)), (h_d, .inl (cI, 3, .inl fd))] → va_S A s.heap H locs → lv_has ls 20 [(7, .int (p5 - p5 / 100 * 100)), (6, .int (p5 / 100)), (0, .ref h_t), (1, .ref h_m), (2, .ref h_h), (3, .ref h_g), (4, .ref h_d), (5, .int p5)] → W p l e (headSpec wsL_why rmL_why).room s m (([.ref h_t, .ref h_m, .ref h_h, .ref h_g, .ref h_d, .int p5] : List Value).toArray) below meth c H locs (0) (0) QQ (F0 m 35 ls [.int y2])) h (fun y2 h H locs ls hP hD hS hl => ?_) (fun g35_3 hg35_4 h => ?_)
  · refine lv_istore (lv' := [(8, .int y2), (7, .int (p5 - p5 / 100 * 100)), (6, .int (p5 / 100)), (0, .ref h_t), (1, .ref h_m), (2, .ref h_h), (3, .ref h_g), (4, .ref h_d), (5, .int p5)]) hx hb dL_why_35 hl (by decide) rfl (fun ls hl => ?_)
    refine lv_iload hx hb dL_why_37 (lv_at hl 2 rfl) ?_
    refine lv_iconst (v := 1) hx hb dL_why_39 (by decide) ?_
    refine jn1_e (fun (y5 : Int32) => ∀ (H : Heap) (locs : List Loc) (ls : Array Slot), va_P D vwCl [(h_t, .inl (cI, 24, .inl ft)), (h_m, .inl (cI, 16, .inl fm)), (h_h, .inl (cI, 10, .inl fh)), (h_g, .inl (cI, 7, .inl fg)), (h_d, .inl (cI, 3, .inl fd))] H → va_D A [(h_t, .inl (cI, 24, .inl ft)), (h_m, .inl (cI, 16, .inl fm)), (h_h, .inl (cI, 10, .inl fh)), (h_g, .inl (cI, 7, .inl fg)), (h_d, .inl (cI, 3, .inl fd))] → va_S A s.heap H locs → lv_has ls 20 [(8, .int y2), (7, .int (p5 - p5 / 100 * 100)), (6, .int (p5 / 100)), (0, .ref h_t), (1, .ref h_m), (2, .ref h_h), (3, .ref h_g), (4, .ref h_d), (5, .int p5)] → W p l e (headSpec wsL_why rmL_why).room s m (([.ref h_t, .ref h_m, .ref h_h, .ref h_g, .ref h_d, .int p5] : List Value).toArray) below meth c H locs (0) (0) QQ (F0 m 60 ls [.int y5])) h (fun y5 h H locs ls hP hD hS hl => ?_) (fun g60_6 hg60_7 h => ?_)
    · refine lv_istore (lv' := [(9, .int y5), (8, .int y2), (7, .int (p5 - p5 / 100 * 100)), (6, .int (p5 / 100)), (0, .ref h_t), (1, .ref h_m), (2, .ref h_h), (3, .ref h_g), (4, .ref h_d), (5, .int p5)]) hx hb dL_why_60 hl (by decide) rfl (fun ls hl => ?_)
      refine lv_iload hx hb dL_why_62 (lv_at hl 1 rfl) ?_
      refine lv_iload hx hb dL_why_64 (lv_at hl 0 rfl) ?_
      refine lv_icmp_eq (tgt := 86) hx hb dL_why_66 (by decide) (fun c8 => ?_) (fun c8 => ?_)
      · have h := it_t h c8
        refine lv_iconst (v := 1) hx hb dL_why_86 (by decide) ?_
        cases h
        rw [hQQ]
        exact W.iret hx hb hr (fun t ht hW => ⟨rfl, by rw [ht]; exact hP, hD, hS.F ht⟩) hS.2.2 dL_why_87
      · have h := it_f h c8
        refine lv_iload hx hb dL_why_69 (lv_at hl 3 rfl) ?_
        refine lv_iconst (v := 3) hx hb dL_why_71 (by decide) ?_
        refine jn0_e (∀ (H : Heap) (locs : List Loc) (ls : Array Slot), va_P D vwCl [(h_t, .inl (cI, 24, .inl ft)), (h_m, .inl (cI, 16, .inl fm)), (h_h, .inl (cI, 10, .inl fh)), (h_g, .inl (cI, 7, .inl fg)), (h_d, .inl (cI, 3, .inl fd))] H → va_D A [(h_t, .inl (cI, 24, .inl ft)), (h_m, .inl (cI, 16, .inl fm)), (h_h, .inl (cI, 10, .inl fh)), (h_g, .inl (cI, 7, .inl fg)), (h_d, .inl (cI, 3, .inl fd))] → va_S A s.heap H locs → lv_has ls 20 [(9, .int y5), (8, .int y2), (7, .int (p5 - p5 / 100 * 100)), (6, .int (p5 / 100)), (0, .ref h_t), (1, .ref h_m), (2, .ref h_h), (3, .ref h_g), (4, .ref h_d), (5, .int p5)] → W p l e (headSpec wsL_why rmL_why).room s m (([.ref h_t, .ref h_m, .ref h_h, .ref h_g, .ref h_d, .int p5] : List Value).toArray) below meth c H locs (0) (0) QQ (F0 m 88 ls [])) h (fun h H locs ls hP hD hS hl => ?_) (fun g88_9 hg88_10 h => ?_)
        · unfold fL_why_88 at h
          refine lv_iload hx hb dL_why_88 (lv_at hl 3 rfl) ?_
          refine lv_iconst (v := 2) hx hb dL_why_90 (by decide) ?_
          refine jn1_e (fun (y11 : Int32) => ∀ (H : Heap) (locs : List Loc) (ls : Array Slot), va_P D vwCl [(h_t, .inl (cI, 24, .inl ft)), (h_m, .inl (cI, 16, .inl fm)), (h_h, .inl (cI, 10, .inl fh)), (h_g, .inl (cI, 7, .inl fg)), (h_d, .inl (cI, 3, .inl fd))] H → va_D A [(h_t, .inl (cI, 24, .inl ft)), (h_m, .inl (cI, 16, .inl fm)), (h_h, .inl (cI, 10, .inl fh)), (h_g, .inl (cI, 7, .inl fg)), (h_d, .inl (cI, 3, .inl fd))] → va_S A s.heap H locs → lv_has ls 20 [(9, .int y5), (8, .int y2), (7, .int (p5 - p5 / 100 * 100)), (6, .int (p5 / 100)), (0, .ref h_t), (1, .ref h_m), (2, .ref h_h), (3, .ref h_g), (4, .ref h_d), (5, .int p5)] → W p l e (headSpec wsL_why rmL_why).room s m (([.ref h_t, .ref h_m, .ref h_h, .ref h_g, .ref h_d, .int p5] : List Value).toArray) below meth c H locs (0) (0) QQ (F0 m 106 ls [.int y11])) h (fun y11 h H locs ls hP hD hS hl => ?_) (fun g106_12 hg106_13 h => ?_)
          · refine lv_istore (lv' := [(10, .int y11), (9, .int y5), (8, .int y2), (7, .int (p5 - p5 / 100 * 100)), (6, .int (p5 / 100)), (0, .ref h_t), (1, .ref h_m), (2, .ref h_h), (3, .ref h_g), (4, .ref h_d), (5, .int p5)]) hx hb dL_why_106 hl (by decide) rfl (fun ls hl => ?_)
            refine lv_iload hx hb dL_why_108 (lv_at hl 4 rfl) ?_
            refine lv_iconst (v := 2) hx hb dL_why_110 (by decide) ?_
            refine jn1_e (fun (y14 : Int32) => ∀ (H : Heap) (locs : List Loc) (ls : Array Slot), va_P D vwCl [(h_t, .inl (cI, 24, .inl ft)), (h_m, .inl (cI, 16, .inl fm)), (h_h, .inl (cI, 10, .inl fh)), (h_g, .inl (cI, 7, .inl fg)), (h_d, .inl (cI, 3, .inl fd))] H → va_D A [(h_t, .inl (cI, 24, .inl ft)), (h_m, .inl (cI, 16, .inl fm)), (h_h, .inl (cI, 10, .inl fh)), (h_g, .inl (cI, 7, .inl fg)), (h_d, .inl (cI, 3, .inl fd))] → va_S A s.heap H locs → lv_has ls 20 [(10, .int y11), (9, .int y5), (8, .int y2), (7, .int (p5 - p5 / 100 * 100)), (6, .int (p5 / 100)), (0, .ref h_t), (1, .ref h_m), (2, .ref h_h), (3, .ref h_g), (4, .ref h_d), (5, .int p5)] → W p l e (headSpec wsL_why rmL_why).room s m (([.ref h_t, .ref h_m, .ref h_h, .ref h_g, .ref h_d, .int p5] : List Value).toArray) below meth c H locs (0) (0) QQ (F0 m 128 ls [.int y14])) h (fun y14 h H locs ls hP hD hS hl => ?_) (fun g128_15 hg128_16 h => ?_)
            · refine lv_istore (lv' := [(11, .int y14), (10, .int y11), (9, .int y5), (8, .int y2), (7, .int (p5 - p5 / 100 * 100)), (6, .int (p5 / 100)), (0, .ref h_t), (1, .ref h_m), (2, .ref h_h), (3, .ref h_g), (4, .ref h_d), (5, .int p5)]) hx hb dL_why_128 hl (by decide) rfl (fun ls hl => ?_)
              refine lv_iconst (v := 1) hx hb dL_why_130 (by decide) ?_
              refine lv_iload hx hb dL_why_131 (lv_at hl 1 rfl) ?_
              refine lv_ishl hx hb dL_why_133 ?_
              refine lv_iconst (v := 1) hx hb dL_why_134 (by decide) ?_
              refine lv_iload hx hb dL_why_135 (lv_at hl 0 rfl) ?_
              refine lv_ishl hx hb dL_why_137 ?_
              refine lv_ior hx hb dL_why_138 ?_
              refine lv_istore (lv' := [(12, .int (((1 : Int32) <<< (y11 &&& 31)) ||| ((1 : Int32) <<< (y14 &&& 31)))), (11, .int y14), (10, .int y11), (9, .int y5), (8, .int y2), (7, .int (p5 - p5 / 100 * 100)), (6, .int (p5 / 100)), (0, .ref h_t), (1, .ref h_m), (2, .ref h_h), (3, .ref h_g), (4, .ref h_d), (5, .int p5)]) hx hb dL_why_139 hl (by decide) rfl (fun ls hl => ?_)
              refine lv_aload_n hx hb dL_why_141 rfl (lv_at hl 9 rfl) ?_
              refine lv_aload_n hx hb dL_why_142 rfl (lv_at hl 10 rfl) ?_
              obtain ⟨v17, hq18, h⟩ := bd1_e h
              refine zz_cS (As := [.ref h_h, .ref h_g]) ⟨hx, hb, hml, hown, hts⟩ (kL_held l D cI cZ cL h_h h_g fh fg N hq18) (va_cwS 2 hts gL_why_L_held rfl rfl rfl (by decide +kernel) ⟨Nat.le_of_ble_eq_true rfl, Nat.le_of_ble_eq_true rfl⟩) (hP.sub (ws' := [(h_h, .inl (cI, 10, .inl fh)), (h_g, .inl (cI, 7, .inl fg))]) [2, 3] rfl) hKK rfl hl.1 rfl (Nat.le_of_ble_eq_true rfl) dL_why_143 ⟨Nat.le_of_ble_eq_true rfl, Nat.le_of_ble_eq_true rfl⟩ ?_
              refine lv_istore (lv' := [(13, .int v17), (12, .int (((1 : Int32) <<< (y11 &&& 31)) ||| ((1 : Int32) <<< (y14 &&& 31)))), (11, .int y14), (10, .int y11), (9, .int y5), (8, .int y2), (7, .int (p5 - p5 / 100 * 100)), (6, .int (p5 / 100)), (0, .ref h_t), (1, .ref h_m), (2, .ref h_h), (3, .ref h_g), (4, .ref h_d), (5, .int p5)]) hx hb dL_why_146 hl (by decide) rfl (fun ls hl => ?_)
              refine lv_iload hx hb dL_why_148 (lv_at hl 1 rfl) ?_
              refine lv_iload hx hb dL_why_150 (lv_at hl 0 rfl) ?_
              refine lv_iand hx hb dL_why_152 ?_
              refine lv_if_eq (tgt := 158) hx hb dL_why_153 (by decide) (fun c19 => ?_) (fun c19 => ?_)
              · have h := it_t h c19
                unfold fL_why_158 at h
                refine lv_aload_n hx hb dL_why_158 rfl (lv_at hl 8 rfl) ?_
                refine lv_aload_n hx hb dL_why_159 rfl (lv_at hl 9 rfl) ?_
                refine lv_aload_n hx hb dL_why_160 rfl (lv_at hl 11 rfl) ?_
                refine lv_aload hx hb dL_why_161 (lv_at hl 12 rfl) ?_
                refine lv_iconst (v := 0) hx hb dL_why_163 (by decide) ?_
                refine va_iald hx hb hK hP 4 0 rfl rfl (by unfold vp_in; decide) dL_why_164 ?_
                obtain ⟨w21, hq20, h⟩ := bd1_e h
                refine zz_mS (As := [.ref h_t, .ref h_m, .ref h_g, .int (fd 0)]) (wr := [(h_h, .inl (cI, 10, .inl fh)), (h_d, .inl (cI, 3, .inl fd))]) (w1 := [(h_t, .inl (cI, 24, .inl ft)), (h_m, .inl (cI, 16, .inl w21)), (h_g, .inl (cI, 7, .inl fg))]) (wt' := [(h_t, .inl (cI, 24, .inl ft)), (h_m, .inl (cI, 16, .inl w21)), (h_h, .inl (cI, 10, .inl fh)), (h_g, .inl (cI, 7, .inl fg)), (h_d, .inl (cI, 3, .inl fd))]) (wc := [(h_t, .inl (cI, 24, .inl ft)), (h_m, .inl (cI, 16, .inl fm)), (h_g, .inl (cI, 7, .inl fg))]) (rv := none) ⟨hx, hb, hml, hown, hts⟩ (kL_lay l D cI cZ cL H.size h_t h_m h_g ft fm fg (fd 0) N hq20) (va_cwS 4 hts gL_why_L_lay rfl rfl rfl (by decide +kernel) ⟨Nat.le_of_ble_eq_true rfl, Nat.le_of_ble_eq_true rfl⟩) hP hD hS hA hKK [0, 1, 3] [2, 4] [2, 3, 0, 4, 1] rfl rfl (by decide) (by decide) rfl (by decide) (by decide) rfl hl.1 rfl (Nat.le_of_ble_eq_true rfl) dL_why_165 ⟨Nat.le_of_ble_eq_true rfl, Nat.le_of_ble_eq_true rfl⟩ (fun H locs hP hD hS hz9 => ?_)
                show W p l e _ s m _ below meth c H locs _ _ QQ (F0 m 168 ls [])
                refine lv_aload_n hx hb dL_why_168 rfl (lv_at hl 9 rfl) ?_
                refine lv_aload_n hx hb dL_why_169 rfl (lv_at hl 11 rfl) ?_
                refine lv_aload hx hb dL_why_170 (lv_at hl 12 rfl) ?_
                refine lv_iconst (v := 2) hx hb dL_why_172 (by decide) ?_
                refine va_iald hx hb hK hP 4 0 rfl rfl (by unfold vp_in; decide) dL_why_173 ?_
                obtain ⟨v22, hq23, h⟩ := bd1_e h
                refine zz_cS (As := [.ref h_m, .ref h_g, .int (fd 2)]) ⟨hx, hb, hml, hown, hts⟩ (kL_with l D cI cZ cL h_m h_g w21 fg (fd 2) N hq23) (va_cwS 3 hts gL_why_L_with rfl rfl rfl (by decide +kernel) ⟨Nat.le_of_ble_eq_true rfl, Nat.le_of_ble_eq_true rfl⟩) (hP.sub (ws' := [(h_m, .inl (cI, 16, .inl w21)), (h_g, .inl (cI, 7, .inl fg))]) [1, 3] rfl) hKK rfl hl.1 rfl (Nat.le_of_ble_eq_true rfl) dL_why_174 ⟨Nat.le_of_ble_eq_true rfl, Nat.le_of_ble_eq_true rfl⟩ ?_
                refine lv_istore (lv' := [(14, .int v22), (13, .int v17), (12, .int (((1 : Int32) <<< (y11 &&& 31)) ||| ((1 : Int32) <<< (y14 &&& 31)))), (11, .int y14), (10, .int y11), (9, .int y5), (8, .int y2), (7, .int (p5 - p5 / 100 * 100)), (6, .int (p5 / 100)), (0, .ref h_t), (1, .ref h_m), (2, .ref h_h), (3, .ref h_g), (4, .ref h_d), (5, .int p5)]) hx hb dL_why_177 hl (by decide) rfl (fun ls hl => ?_)
                refine lv_aload_n hx hb dL_why_179 rfl (lv_at hl 10 rfl) ?_
                refine lv_aload_n hx hb dL_why_180 rfl (lv_at hl 12 rfl) ?_
                refine lv_aload hx hb dL_why_181 (lv_at hl 13 rfl) ?_
                refine lv_iconst (v := 1) hx hb dL_why_183 (by decide) ?_
                refine va_iald hx hb hK hP 4 0 rfl rfl (by unfold vp_in; decide) dL_why_184 ?_
                obtain ⟨v24, hq25, h⟩ := bd1_e h
                refine zz_cS (As := [.ref h_m, .ref h_g, .int (fd 1)]) ⟨hx, hb, hml, hown, hts⟩ (kL_with l D cI cZ cL h_m h_g w21 fg (fd 1) N hq25) (va_cwS 3 hts gL_why_L_with rfl rfl rfl (by decide +kernel) ⟨Nat.le_of_ble_eq_true rfl, Nat.le_of_ble_eq_true rfl⟩) (hP.sub (ws' := [(h_m, .inl (cI, 16, .inl w21)), (h_g, .inl (cI, 7, .inl fg))]) [1, 3] rfl) hKK rfl hl.1 rfl (Nat.le_of_ble_eq_true rfl) dL_why_185 ⟨Nat.le_of_ble_eq_true rfl, Nat.le_of_ble_eq_true rfl⟩ ?_
                refine lv_istore (lv' := [(15, .int v24), (14, .int v22), (13, .int v17), (12, .int (((1 : Int32) <<< (y11 &&& 31)) ||| ((1 : Int32) <<< (y14 &&& 31)))), (11, .int y14), (10, .int y11), (9, .int y5), (8, .int y2), (7, .int (p5 - p5 / 100 * 100)), (6, .int (p5 / 100)), (0, .ref h_t), (1, .ref h_m), (2, .ref h_h), (3, .ref h_g), (4, .ref h_d), (5, .int p5)]) hx hb dL_why_188 hl (by decide) rfl (fun ls hl => ?_)
                refine lv_iload hx hb dL_why_190 (lv_at hl 1 rfl) ?_
                refine lv_aload_n hx hb dL_why_192 rfl (lv_at hl 11 rfl) ?_
                refine lv_aload_n hx hb dL_why_193 rfl (lv_at hl 13 rfl) ?_
                refine lv_aload_n hx hb dL_why_194 rfl (lv_at hl 13 rfl) ?_
                refine lv_iconst (v := 3) hx hb dL_why_195 (by decide) ?_
                refine va_iald hx hb hK hP 3 0 rfl rfl (by unfold vp_in; decide) dL_why_196 ?_
                obtain ⟨v26, hq27, h⟩ := bd1_e h
                refine zz_cS (As := [.ref h_m, .ref h_g, .int (fg 3)]) ⟨hx, hb, hml, hown, hts⟩ (kL_with l D cI cZ cL h_m h_g w21 fg (fg 3) N hq27) (va_cwS 3 hts gL_why_L_with rfl rfl rfl (by decide +kernel) ⟨Nat.le_of_ble_eq_true rfl, Nat.le_of_ble_eq_true rfl⟩) (hP.sub (ws' := [(h_m, .inl (cI, 16, .inl w21)), (h_g, .inl (cI, 7, .inl fg))]) [1, 3] rfl) hKK rfl hl.1 rfl (Nat.le_of_ble_eq_true rfl) dL_why_197 ⟨Nat.le_of_ble_eq_true rfl, Nat.le_of_ble_eq_true rfl⟩ ?_
                refine lv_iand hx hb dL_why_200 ?_
                refine lv_istore (lv' := [(16, .int (v22 &&& v26)), (15, .int v24), (14, .int v22), (13, .int v17), (12, .int (((1 : Int32) <<< (y11 &&& 31)) ||| ((1 : Int32) <<< (y14 &&& 31)))), (11, .int y14), (10, .int y11), (9, .int y5), (8, .int y2), (7, .int (p5 - p5 / 100 * 100)), (6, .int (p5 / 100)), (0, .ref h_t), (1, .ref h_m), (2, .ref h_h), (3, .ref h_g), (4, .ref h_d), (5, .int p5)]) hx hb dL_why_201 hl (by decide) rfl (fun ls hl => ?_)
                refine lv_iload hx hb dL_why_203 (lv_at hl 10 rfl) ?_
                refine lv_iconst (v := 1) hx hb dL_why_205 (by decide) ?_
                refine jn0_e (∀ (H : Heap) (locs : List Loc) (ls : Array Slot), va_P D vwCl [(h_t, .inl (cI, 24, .inl ft)), (h_m, .inl (cI, 16, .inl w21)), (h_h, .inl (cI, 10, .inl fh)), (h_g, .inl (cI, 7, .inl fg)), (h_d, .inl (cI, 3, .inl fd))] H → va_D A [(h_t, .inl (cI, 24, .inl ft)), (h_m, .inl (cI, 16, .inl w21)), (h_h, .inl (cI, 10, .inl fh)), (h_g, .inl (cI, 7, .inl fg)), (h_d, .inl (cI, 3, .inl fd))] → va_S A s.heap H locs → lv_has ls 20 [(16, .int (v22 &&& v26)), (15, .int v24), (14, .int v22), (13, .int v17), (12, .int (((1 : Int32) <<< (y11 &&& 31)) ||| ((1 : Int32) <<< (y14 &&& 31)))), (11, .int y14), (10, .int y11), (9, .int y5), (8, .int y2), (7, .int (p5 - p5 / 100 * 100)), (6, .int (p5 / 100)), (0, .ref h_t), (1, .ref h_m), (2, .ref h_h), (3, .ref h_g), (4, .ref h_d), (5, .int p5)] → W p l e (headSpec wsL_why rmL_why).room s m (([.ref h_t, .ref h_m, .ref h_h, .ref h_g, .ref h_d, .int p5] : List Value).toArray) below meth c H locs (0) (0) QQ (F0 m 227 ls [])) h (fun h H locs ls hP hD hS hl => ?_) (fun g227_28 hg227_29 h => ?_)
                · refine lv_iload hx hb dL_why_227 (lv_at hl 10 rfl) ?_
                  refine lv_iconst (v := 2) hx hb dL_why_229 (by decide) ?_
                  refine jn0_e (∀ (H : Heap) (locs : List Loc) (ls : Array Slot), va_P D vwCl [(h_t, .inl (cI, 24, .inl ft)), (h_m, .inl (cI, 16, .inl w21)), (h_h, .inl (cI, 10, .inl fh)), (h_g, .inl (cI, 7, .inl fg)), (h_d, .inl (cI, 3, .inl fd))] H → va_D A [(h_t, .inl (cI, 24, .inl ft)), (h_m, .inl (cI, 16, .inl w21)), (h_h, .inl (cI, 10, .inl fh)), (h_g, .inl (cI, 7, .inl fg)), (h_d, .inl (cI, 3, .inl fd))] → va_S A s.heap H locs → lv_has ls 20 [(16, .int (v22 &&& v26)), (15, .int v24), (14, .int v22), (13, .int v17), (12, .int (((1 : Int32) <<< (y11 &&& 31)) ||| ((1 : Int32) <<< (y14 &&& 31)))), (11, .int y14), (10, .int y11), (9, .int y5), (8, .int y2), (7, .int (p5 - p5 / 100 * 100)), (6, .int (p5 / 100)), (0, .ref h_t), (1, .ref h_m), (2, .ref h_h), (3, .ref h_g), (4, .ref h_d), (5, .int p5)] → W p l e (headSpec wsL_why rmL_why).room s m (([.ref h_t, .ref h_m, .ref h_h, .ref h_g, .ref h_d, .int p5] : List Value).toArray) below meth c H locs (0) (0) QQ (F0 m 241 ls [])) h (fun h H locs ls hP hD hS hl => ?_) (fun g241_30 hg241_31 h => ?_)
                  · refine lv_iload hx hb dL_why_241 (lv_at hl 10 rfl) ?_
                    refine lv_iconst (v := 4) hx hb dL_why_243 (by decide) ?_
                    refine jn0_e (∀ (H : Heap) (locs : List Loc) (ls : Array Slot), va_P D vwCl [(h_t, .inl (cI, 24, .inl ft)), (h_m, .inl (cI, 16, .inl w21)), (h_h, .inl (cI, 10, .inl fh)), (h_g, .inl (cI, 7, .inl fg)), (h_d, .inl (cI, 3, .inl fd))] H → va_D A [(h_t, .inl (cI, 24, .inl ft)), (h_m, .inl (cI, 16, .inl w21)), (h_h, .inl (cI, 10, .inl fh)), (h_g, .inl (cI, 7, .inl fg)), (h_d, .inl (cI, 3, .inl fd))] → va_S A s.heap H locs → lv_has ls 20 [(16, .int (v22 &&& v26)), (15, .int v24), (14, .int v22), (13, .int v17), (12, .int (((1 : Int32) <<< (y11 &&& 31)) ||| ((1 : Int32) <<< (y14 &&& 31)))), (11, .int y14), (10, .int y11), (9, .int y5), (8, .int y2), (7, .int (p5 - p5 / 100 * 100)), (6, .int (p5 / 100)), (0, .ref h_t), (1, .ref h_m), (2, .ref h_h), (3, .ref h_g), (4, .ref h_d), (5, .int p5)] → W p l e (headSpec wsL_why rmL_why).room s m (([.ref h_t, .ref h_m, .ref h_h, .ref h_g, .ref h_d, .int p5] : List Value).toArray) below meth c H locs (0) (0) QQ (F0 m 257 ls [])) h (fun h H locs ls hP hD hS hl => ?_) (fun g257_32 hg257_33 h => ?_)
                    · unfold fL_why_257 at h
                      refine lv_iload hx hb dL_why_257 (lv_at hl 10 rfl) ?_
                      refine lv_iconst (v := 2) hx hb dL_why_259 (by decide) ?_
                      refine jn1_e (fun (y34 : Int32) => ∀ (H : Heap) (locs : List Loc) (ls : Array Slot), va_P D vwCl [(h_t, .inl (cI, 24, .inl ft)), (h_m, .inl (cI, 16, .inl w21)), (h_h, .inl (cI, 10, .inl fh)), (h_g, .inl (cI, 7, .inl fg)), (h_d, .inl (cI, 3, .inl fd))] H → va_D A [(h_t, .inl (cI, 24, .inl ft)), (h_m, .inl (cI, 16, .inl w21)), (h_h, .inl (cI, 10, .inl fh)), (h_g, .inl (cI, 7, .inl fg)), (h_d, .inl (cI, 3, .inl fd))] → va_S A s.heap H locs → lv_has ls 20 [(16, .int (v22 &&& v26)), (15, .int v24), (14, .int v22), (13, .int v17), (12, .int (((1 : Int32) <<< (y11 &&& 31)) ||| ((1 : Int32) <<< (y14 &&& 31)))), (11, .int y14), (10, .int y11), (9, .int y5), (8, .int y2), (7, .int (p5 - p5 / 100 * 100)), (6, .int (p5 / 100)), (0, .ref h_t), (1, .ref h_m), (2, .ref h_h), (3, .ref h_g), (4, .ref h_d), (5, .int p5)] → W p l e (headSpec wsL_why rmL_why).room s m (([.ref h_t, .ref h_m, .ref h_h, .ref h_g, .ref h_d, .int p5] : List Value).toArray) below meth c H locs (0) (0) QQ (F0 m 278 ls [.int y34])) h (fun y34 h H locs ls hP hD hS hl => ?_) (fun g278_35 hg278_36 h => ?_)
                      · unfold fL_why_278 at h
                        refine lv_istore (lv' := [(17, .int y34), (16, .int (v22 &&& v26)), (15, .int v24), (14, .int v22), (13, .int v17), (12, .int (((1 : Int32) <<< (y11 &&& 31)) ||| ((1 : Int32) <<< (y14 &&& 31)))), (11, .int y14), (10, .int y11), (9, .int y5), (8, .int y2), (7, .int (p5 - p5 / 100 * 100)), (6, .int (p5 / 100)), (0, .ref h_t), (1, .ref h_m), (2, .ref h_h), (3, .ref h_g), (4, .ref h_d), (5, .int p5)]) hx hb dL_why_278 hl (by decide) rfl (fun ls hl => ?_)
                        refine lv_iload hx hb dL_why_280 (lv_at hl 0 rfl) ?_
                        refine jn2_e (fun (w37 : Nat → Int32) (w38 : Nat → Int32) => ∀ (H : Heap) (locs : List Loc) (ls : Array Slot), va_P D vwCl [(h_t, .inl (cI, 24, .inl ft)), (h_m, .inl (cI, 16, .inl w37)), (h_h, .inl (cI, 10, .inl fh)), (h_g, .inl (cI, 7, .inl fg)), (h_d, .inl (cI, 3, .inl w38))] H → va_D A [(h_t, .inl (cI, 24, .inl ft)), (h_m, .inl (cI, 16, .inl w37)), (h_h, .inl (cI, 10, .inl fh)), (h_g, .inl (cI, 7, .inl fg)), (h_d, .inl (cI, 3, .inl w38))] → va_S A s.heap H locs → lv_has ls 20 [(17, .int y34), (16, .int (v22 &&& v26)), (15, .int v24), (14, .int v22), (13, .int v17), (12, .int (((1 : Int32) <<< (y11 &&& 31)) ||| ((1 : Int32) <<< (y14 &&& 31)))), (11, .int y14), (10, .int y11), (9, .int y5), (8, .int y2), (7, .int (p5 - p5 / 100 * 100)), (6, .int (p5 / 100)), (0, .ref h_t), (1, .ref h_m), (2, .ref h_h), (3, .ref h_g), (4, .ref h_d), (5, .int p5)] → W p l e (headSpec wsL_why rmL_why).room s m (([.ref h_t, .ref h_m, .ref h_h, .ref h_g, .ref h_d, .int p5] : List Value).toArray) below meth c H locs (0) (0) QQ (F0 m 327 ls [])) h (fun w37 w38 h H locs ls hP hD hS hl => ?_) (fun g327_39 hg327_40 h => ?_)
                        · unfold fL_why_327 at h
                          refine lv_iload hx hb dL_why_327 (lv_at hl 0 rfl) ?_
                          refine jn2_e (fun (w41 : Nat → Int32) (w42 : Nat → Int32) => ∀ (H : Heap) (locs : List Loc) (ls : Array Slot), va_P D vwCl [(h_t, .inl (cI, 24, .inl ft)), (h_m, .inl (cI, 16, .inl w41)), (h_h, .inl (cI, 10, .inl fh)), (h_g, .inl (cI, 7, .inl fg)), (h_d, .inl (cI, 3, .inl w42))] H → va_D A [(h_t, .inl (cI, 24, .inl ft)), (h_m, .inl (cI, 16, .inl w41)), (h_h, .inl (cI, 10, .inl fh)), (h_g, .inl (cI, 7, .inl fg)), (h_d, .inl (cI, 3, .inl w42))] → va_S A s.heap H locs → lv_has ls 20 [(17, .int y34), (16, .int (v22 &&& v26)), (15, .int v24), (14, .int v22), (13, .int v17), (12, .int (((1 : Int32) <<< (y11 &&& 31)) ||| ((1 : Int32) <<< (y14 &&& 31)))), (11, .int y14), (10, .int y11), (9, .int y5), (8, .int y2), (7, .int (p5 - p5 / 100 * 100)), (6, .int (p5 / 100)), (0, .ref h_t), (1, .ref h_m), (2, .ref h_h), (3, .ref h_g), (4, .ref h_d), (5, .int p5)] → W p l e (headSpec wsL_why rmL_why).room s m (([.ref h_t, .ref h_m, .ref h_h, .ref h_g, .ref h_d, .int p5] : List Value).toArray) below meth c H locs (0) (0) QQ (F0 m 391 ls [])) h (fun w41 w42 h H locs ls hP hD hS hl => ?_) (fun g391_43 hg391_44 h => ?_)
                          · unfold fL_why_391 at h
                            refine lv_aload hx hb dL_why_391 (lv_at hl 16 rfl) ?_
                            refine lv_iload hx hb dL_why_393 (lv_at hl 11 rfl) ?_
                            refine lv_iconst (v := 2) hx hb dL_why_395 (by decide) ?_
                            refine lv_idiv hx hb dL_why_396 (by decide) ?_
                            obtain ⟨hi45, h⟩ := gin_e h
                            refine va_iald hx hb hK hP 4 0 rfl rfl hi45 dL_why_397 ?_
                            refine lv_istore (lv' := [(18, .int (w42 ((p5 / 100) / 2).toNatClampNeg)), (17, .int y34), (16, .int (v22 &&& v26)), (15, .int v24), (14, .int v22), (13, .int v17), (12, .int (((1 : Int32) <<< (y11 &&& 31)) ||| ((1 : Int32) <<< (y14 &&& 31)))), (11, .int y14), (10, .int y11), (9, .int y5), (8, .int y2), (7, .int (p5 - p5 / 100 * 100)), (6, .int (p5 / 100)), (0, .ref h_t), (1, .ref h_m), (2, .ref h_h), (3, .ref h_g), (4, .ref h_d), (5, .int p5)]) hx hb dL_why_398 hl (by decide) rfl (fun ls hl => ?_)
                            refine lv_aload hx hb dL_why_400 (lv_at hl 17 rfl) ?_
                            refine lv_iload hx hb dL_why_402 (lv_at hl 12 rfl) ?_
                            refine lv_iconst (v := 2) hx hb dL_why_404 (by decide) ?_
                            refine lv_idiv hx hb dL_why_405 (by decide) ?_
                            refine lv_iload hx hb dL_why_406 (lv_at hl 0 rfl) ?_
                            refine lv_iconst (v := 1) hx hb dL_why_408 (by decide) ?_
                            refine lv_iload hx hb dL_why_409 (lv_at hl 11 rfl) ?_
                            refine lv_ishl hx hb dL_why_411 ?_
                            refine lv_ixor hx hb dL_why_412 ?_
                            obtain ⟨hi46, h⟩ := gin_e h
                            refine va_iast hx hb hK hP hD hS 4 0 rfl rfl hi46 dL_why_413 (fun H locs hP hD hS => ?_)
                            have hP : va_P D vwCl [(h_t, .inl (cI, 24, .inl ft)), (h_m, .inl (cI, 16, .inl w41)), (h_h, .inl (cI, 10, .inl fh)), (h_g, .inl (cI, 7, .inl fg)), (h_d, .inl (cI, 3, .inl (upd w42 ((p5 / 100) / 2).toNatClampNeg ((w42 ((p5 / 100) / 2).toNatClampNeg) ^^^ ((1 : Int32) <<< ((p5 - p5 / 100 * 100) &&& 31))))))] H := hP
                            have hD : va_D A [(h_t, .inl (cI, 24, .inl ft)), (h_m, .inl (cI, 16, .inl w41)), (h_h, .inl (cI, 10, .inl fh)), (h_g, .inl (cI, 7, .inl fg)), (h_d, .inl (cI, 3, .inl (upd w42 ((p5 / 100) / 2).toNatClampNeg ((w42 ((p5 / 100) / 2).toNatClampNeg) ^^^ ((1 : Int32) <<< ((p5 - p5 / 100 * 100) &&& 31))))))] := hD
                            refine lv_aload_n hx hb dL_why_414 rfl (lv_at hl 13 rfl) ?_
                            refine lv_aload_n hx hb dL_why_415 rfl (lv_at hl 14 rfl) ?_
                            refine lv_aload_n hx hb dL_why_416 rfl (lv_at hl 16 rfl) ?_
                            refine lv_aload hx hb dL_why_417 (lv_at hl 17 rfl) ?_
                            refine lv_iconst (v := 0) hx hb dL_why_419 (by decide) ?_
                            refine va_iald hx hb hK hP 4 0 rfl rfl (by unfold vp_in; decide) dL_why_420 ?_
                            obtain ⟨w48, hq47, h⟩ := bd1_e h
                            refine zz_mS (As := [.ref h_t, .ref h_m, .ref h_g, .int ((upd w42 ((p5 / 100) / 2).toNatClampNeg ((w42 ((p5 / 100) / 2).toNatClampNeg) ^^^ ((1 : Int32) <<< ((p5 - p5 / 100 * 100) &&& 31)))) 0)]) (wr := [(h_h, .inl (cI, 10, .inl fh)), (h_d, .inl (cI, 3, .inl (upd w42 ((p5 / 100) / 2).toNatClampNeg ((w42 ((p5 / 100) / 2).toNatClampNeg) ^^^ ((1 : Int32) <<< ((p5 - p5 / 100 * 100) &&& 31))))))]) (w1 := [(h_t, .inl (cI, 24, .inl ft)), (h_m, .inl (cI, 16, .inl w48)), (h_g, .inl (cI, 7, .inl fg))]) (wt' := [(h_t, .inl (cI, 24, .inl ft)), (h_m, .inl (cI, 16, .inl w48)), (h_h, .inl (cI, 10, .inl fh)), (h_g, .inl (cI, 7, .inl fg)), (h_d, .inl (cI, 3, .inl (upd w42 ((p5 / 100) / 2).toNatClampNeg ((w42 ((p5 / 100) / 2).toNatClampNeg) ^^^ ((1 : Int32) <<< ((p5 - p5 / 100 * 100) &&& 31))))))]) (wc := [(h_t, .inl (cI, 24, .inl ft)), (h_m, .inl (cI, 16, .inl w41)), (h_g, .inl (cI, 7, .inl fg))]) (rv := none) ⟨hx, hb, hml, hown, hts⟩ (kL_lay l D cI cZ cL H.size h_t h_m h_g ft w41 fg ((upd w42 ((p5 / 100) / 2).toNatClampNeg ((w42 ((p5 / 100) / 2).toNatClampNeg) ^^^ ((1 : Int32) <<< ((p5 - p5 / 100 * 100) &&& 31)))) 0) N hq47) (va_cwS 4 hts gL_why_L_lay rfl rfl rfl (by decide +kernel) ⟨Nat.le_of_ble_eq_true rfl, Nat.le_of_ble_eq_true rfl⟩) hP hD hS hA hKK [0, 1, 3] [2, 4] [2, 3, 0, 4, 1] rfl rfl (by decide) (by decide) rfl (by decide) (by decide) rfl hl.1 rfl (Nat.le_of_ble_eq_true rfl) dL_why_421 ⟨Nat.le_of_ble_eq_true rfl, Nat.le_of_ble_eq_true rfl⟩ (fun H locs hP hD hS hz9 => ?_)
                            show W p l e _ s m _ below meth c H locs _ _ QQ (F0 m 424 ls [])
                            refine lv_iload hx hb dL_why_424 (lv_at hl 5 rfl) ?_
                            refine lv_aload_n hx hb dL_why_426 rfl (lv_at hl 14 rfl) ?_
                            refine lv_aload_n hx hb dL_why_427 rfl (lv_at hl 16 rfl) ?_
                            refine lv_aload hx hb dL_why_428 (lv_at hl 17 rfl) ?_
                            refine lv_iconst (v := 1) hx hb dL_why_430 (by decide) ?_
                            refine va_iald hx hb hK hP 4 0 rfl rfl (by unfold vp_in; decide) dL_why_431 ?_
                            obtain ⟨v49, hq50, h⟩ := bd1_e h
                            refine zz_cS (As := [.ref h_m, .ref h_g, .int ((upd w42 ((p5 / 100) / 2).toNatClampNeg ((w42 ((p5 / 100) / 2).toNatClampNeg) ^^^ ((1 : Int32) <<< ((p5 - p5 / 100 * 100) &&& 31)))) 1)]) ⟨hx, hb, hml, hown, hts⟩ (kL_with l D cI cZ cL h_m h_g w48 fg ((upd w42 ((p5 / 100) / 2).toNatClampNeg ((w42 ((p5 / 100) / 2).toNatClampNeg) ^^^ ((1 : Int32) <<< ((p5 - p5 / 100 * 100) &&& 31)))) 1) N hq50) (va_cwS 3 hts gL_why_L_with rfl rfl rfl (by decide +kernel) ⟨Nat.le_of_ble_eq_true rfl, Nat.le_of_ble_eq_true rfl⟩) (hP.sub (ws' := [(h_m, .inl (cI, 16, .inl w48)), (h_g, .inl (cI, 7, .inl fg))]) [1, 3] rfl) hKK rfl hl.1 rfl (Nat.le_of_ble_eq_true rfl) dL_why_432 ⟨Nat.le_of_ble_eq_true rfl, Nat.le_of_ble_eq_true rfl⟩ ?_
                            refine lv_iconst (v := (-1)) hx hb dL_why_435 (by decide) ?_
                            refine lv_ixor hx hb dL_why_436 ?_
                            refine lv_iand hx hb dL_why_437 ?_
                            refine jn1_e (fun (y51 : Int32) => ∀ (H : Heap) (locs : List Loc) (ls : Array Slot), va_P D vwCl [(h_t, .inl (cI, 24, .inl ft)), (h_m, .inl (cI, 16, .inl w48)), (h_h, .inl (cI, 10, .inl fh)), (h_g, .inl (cI, 7, .inl fg)), (h_d, .inl (cI, 3, .inl (upd w42 ((p5 / 100) / 2).toNatClampNeg ((w42 ((p5 / 100) / 2).toNatClampNeg) ^^^ ((1 : Int32) <<< ((p5 - p5 / 100 * 100) &&& 31))))))] H → va_D A [(h_t, .inl (cI, 24, .inl ft)), (h_m, .inl (cI, 16, .inl w48)), (h_h, .inl (cI, 10, .inl fh)), (h_g, .inl (cI, 7, .inl fg)), (h_d, .inl (cI, 3, .inl (upd w42 ((p5 / 100) / 2).toNatClampNeg ((w42 ((p5 / 100) / 2).toNatClampNeg) ^^^ ((1 : Int32) <<< ((p5 - p5 / 100 * 100) &&& 31))))))] → va_S A s.heap H locs → lv_has ls 20 [(18, .int (w42 ((p5 / 100) / 2).toNatClampNeg)), (17, .int y34), (16, .int (v22 &&& v26)), (15, .int v24), (14, .int v22), (13, .int v17), (12, .int (((1 : Int32) <<< (y11 &&& 31)) ||| ((1 : Int32) <<< (y14 &&& 31)))), (11, .int y14), (10, .int y11), (9, .int y5), (8, .int y2), (7, .int (p5 - p5 / 100 * 100)), (6, .int (p5 / 100)), (0, .ref h_t), (1, .ref h_m), (2, .ref h_h), (3, .ref h_g), (4, .ref h_d), (5, .int p5)] → W p l e (headSpec wsL_why rmL_why).room s m (([.ref h_t, .ref h_m, .ref h_h, .ref h_g, .ref h_d, .int p5] : List Value).toArray) below meth c H locs (0) (0) QQ (F0 m 461 ls [.int y51])) h (fun y51 h H locs ls hP hD hS hl => ?_) (fun g461_52 hg461_53 h => ?_)
                            · refine lv_istore (lv' := [(19, .int y51), (18, .int (w42 ((p5 / 100) / 2).toNatClampNeg)), (17, .int y34), (16, .int (v22 &&& v26)), (15, .int v24), (14, .int v22), (13, .int v17), (12, .int (((1 : Int32) <<< (y11 &&& 31)) ||| ((1 : Int32) <<< (y14 &&& 31)))), (11, .int y14), (10, .int y11), (9, .int y5), (8, .int y2), (7, .int (p5 - p5 / 100 * 100)), (6, .int (p5 / 100)), (0, .ref h_t), (1, .ref h_m), (2, .ref h_h), (3, .ref h_g), (4, .ref h_d), (5, .int p5)]) hx hb dL_why_461 hl (by decide) rfl (fun ls hl => ?_)
                              refine lv_aload hx hb dL_why_463 (lv_at hl 18 rfl) ?_
                              refine lv_iload hx hb dL_why_465 (lv_at hl 13 rfl) ?_
                              refine lv_iconst (v := 2) hx hb dL_why_467 (by decide) ?_
                              refine lv_idiv hx hb dL_why_468 (by decide) ?_
                              refine lv_iload hx hb dL_why_469 (lv_at hl 1 rfl) ?_
                              obtain ⟨hi54, h⟩ := gin_e h
                              refine va_iast hx hb hK hP hD hS 4 0 rfl rfl hi54 dL_why_471 (fun H locs hP hD hS => ?_)
                              have hP : va_P D vwCl [(h_t, .inl (cI, 24, .inl ft)), (h_m, .inl (cI, 16, .inl w48)), (h_h, .inl (cI, 10, .inl fh)), (h_g, .inl (cI, 7, .inl fg)), (h_d, .inl (cI, 3, .inl (upd (upd w42 ((p5 / 100) / 2).toNatClampNeg ((w42 ((p5 / 100) / 2).toNatClampNeg) ^^^ ((1 : Int32) <<< ((p5 - p5 / 100 * 100) &&& 31)))) ((p5 / 100) / 2).toNatClampNeg (w42 ((p5 / 100) / 2).toNatClampNeg))))] H := hP
                              have hD : va_D A [(h_t, .inl (cI, 24, .inl ft)), (h_m, .inl (cI, 16, .inl w48)), (h_h, .inl (cI, 10, .inl fh)), (h_g, .inl (cI, 7, .inl fg)), (h_d, .inl (cI, 3, .inl (upd (upd w42 ((p5 / 100) / 2).toNatClampNeg ((w42 ((p5 / 100) / 2).toNatClampNeg) ^^^ ((1 : Int32) <<< ((p5 - p5 / 100 * 100) &&& 31)))) ((p5 / 100) / 2).toNatClampNeg (w42 ((p5 / 100) / 2).toNatClampNeg))))] := hD
                              refine lv_iload hx hb dL_why_472 (lv_at hl 0 rfl) ?_
                              refine lv_if_eq (tgt := 481) hx hb dL_why_474 (by decide) (fun c55 => ?_) (fun c55 => ?_)
                              · have h := it_t h c55
                                refine lv_iconst (v := 4) hx hb dL_why_481 (by decide) ?_
                                cases h
                                rw [hQQ]
                                exact W.iret hx hb hr (fun t ht hW => ⟨rfl, by rw [ht]; exact hP, hD, hS.F ht⟩) hS.2.2 dL_why_482
                              · have h := it_f h c55
                                refine lv_iconst (v := 0) hx hb dL_why_477 (by decide) ?_
                                refine lv_goto (tgt := 482) hx hb dL_why_478 (by decide) ?_
                                cases h
                                rw [hQQ]
                                exact W.iret hx hb hr (fun t ht hW => ⟨rfl, by rw [ht]; exact hP, hD, hS.F ht⟩) hS.2.2 dL_why_482
                            · refine lv_if_ne (tgt := 460) hx hb dL_why_438 (by decide) (fun c56 => ?_) (fun c56 => ?_)
                              · have h := it_f h c56
                                refine lv_iconst (v := 0) hx hb dL_why_460 (by decide) ?_
                                exact hg461_53 0 h H locs ls hP hD hS (lv_sub hl [0, 1, 2, 3, 4, 5, 6, 7, 8, 9, 10, 11, 12, 13, 14, 15, 16, 17, 18] rfl)
                              · have h := it_t h c56
                                refine lv_iload hx hb dL_why_441 (lv_at hl 5 rfl) ?_
                                refine lv_aload_n hx hb dL_why_443 rfl (lv_at hl 14 rfl) ?_
                                refine lv_aload_n hx hb dL_why_444 rfl (lv_at hl 16 rfl) ?_
                                refine lv_aload hx hb dL_why_445 (lv_at hl 17 rfl) ?_
                                refine lv_iconst (v := 2) hx hb dL_why_447 (by decide) ?_
                                refine va_iald hx hb hK hP 4 0 rfl rfl (by unfold vp_in; decide) dL_why_448 ?_
                                obtain ⟨v57, hq58, h⟩ := bd1_e h
                                refine zz_cS (As := [.ref h_m, .ref h_g, .int ((upd w42 ((p5 / 100) / 2).toNatClampNeg ((w42 ((p5 / 100) / 2).toNatClampNeg) ^^^ ((1 : Int32) <<< ((p5 - p5 / 100 * 100) &&& 31)))) 2)]) ⟨hx, hb, hml, hown, hts⟩ (kL_with l D cI cZ cL h_m h_g w48 fg ((upd w42 ((p5 / 100) / 2).toNatClampNeg ((w42 ((p5 / 100) / 2).toNatClampNeg) ^^^ ((1 : Int32) <<< ((p5 - p5 / 100 * 100) &&& 31)))) 2) N hq58) (va_cwS 3 hts gL_why_L_with rfl rfl rfl (by decide +kernel) ⟨Nat.le_of_ble_eq_true rfl, Nat.le_of_ble_eq_true rfl⟩) (hP.sub (ws' := [(h_m, .inl (cI, 16, .inl w48)), (h_g, .inl (cI, 7, .inl fg))]) [1, 3] rfl) hKK rfl hl.1 rfl (Nat.le_of_ble_eq_true rfl) dL_why_449 ⟨Nat.le_of_ble_eq_true rfl, Nat.le_of_ble_eq_true rfl⟩ ?_
                                refine lv_iand hx hb dL_why_452 ?_
                                refine lv_if_ne (tgt := 460) hx hb dL_why_453 (by decide) (fun c59 => ?_) (fun c59 => ?_)
                                · have h := it_f h c59
                                  refine lv_iconst (v := 0) hx hb dL_why_460 (by decide) ?_
                                  exact hg461_53 0 h H locs ls hP hD hS (lv_sub hl [0, 1, 2, 3, 4, 5, 6, 7, 8, 9, 10, 11, 12, 13, 14, 15, 16, 17, 18] rfl)
                                · have h := it_t h c59
                                  refine lv_iconst (v := 1) hx hb dL_why_456 (by decide) ?_
                                  refine lv_goto (tgt := 461) hx hb dL_why_457 (by decide) ?_
                                  exact hg461_53 1 h H locs ls hP hD hS (lv_sub hl [0, 1, 2, 3, 4, 5, 6, 7, 8, 9, 10, 11, 12, 13, 14, 15, 16, 17, 18] rfl)
                          · refine lv_if_eq (tgt := 391) hx hb dL_why_329 (by decide) (fun c60 => ?_) (fun c60 => ?_)
                            · have h := it_t h c60
                              exact hg391_44 w37 w38 h H locs ls hP hD hS (lv_sub hl [0, 1, 2, 3, 4, 5, 6, 7, 8, 9, 10, 11, 12, 13, 14, 15, 16, 17] rfl)
                            · have h := it_f h c60
                              refine lv_iload hx hb dL_why_332 (lv_at hl 11 rfl) ?_
                              refine lv_iconst (v := 1) hx hb dL_why_334 (by decide) ?_
                              refine lv_icmp_ne (tgt := 391) hx hb dL_why_335 (by decide) (fun c61 => ?_) (fun c61 => ?_)
                              · have h := it_f h c61
                                exact hg391_44 w37 w38 h H locs ls hP hD hS (lv_sub hl [0, 1, 2, 3, 4, 5, 6, 7, 8, 9, 10, 11, 12, 13, 14, 15, 16, 17] rfl)
                              · have h := it_t h c61
                                refine lv_aload_n hx hb dL_why_338 rfl (lv_at hl 13 rfl) ?_
                                refine lv_iload hx hb dL_why_339 (lv_at hl 7 rfl) ?_
                                obtain ⟨hi62, h⟩ := gin_e h
                                refine va_iald hx hb hK hP 1 0 rfl rfl hi62 dL_why_341 ?_
                                refine lv_iload hx hb dL_why_342 (lv_at hl 6 rfl) ?_
                                refine lv_ishr hx hb dL_why_344 ?_
                                refine lv_iconst (v := 1) hx hb dL_why_345 (by decide) ?_
                                refine lv_iand hx hb dL_why_346 ?_
                                refine lv_if_ne (tgt := 391) hx hb dL_why_347 (by decide) (fun c63 => ?_) (fun c63 => ?_)
                                · have h := it_f h c63
                                  exact hg391_44 w37 w38 h H locs ls hP hD hS (lv_sub hl [0, 1, 2, 3, 4, 5, 6, 7, 8, 9, 10, 11, 12, 13, 14, 15, 16, 17] rfl)
                                · have h := it_t h c63
                                  refine lv_aload_n hx hb dL_why_350 rfl (lv_at hl 12 rfl) ?_
                                  refine lv_aload_n hx hb dL_why_351 rfl (lv_at hl 13 rfl) ?_
                                  refine lv_aload_n hx hb dL_why_352 rfl (lv_at hl 15 rfl) ?_
                                  refine lv_aload hx hb dL_why_353 (lv_at hl 16 rfl) ?_
                                  refine lv_iconst (v := 0) hx hb dL_why_355 (by decide) ?_
                                  refine va_iald hx hb hK hP 4 0 rfl rfl (by unfold vp_in; decide) dL_why_356 ?_
                                  refine lv_iconst (v := 1) hx hb dL_why_357 (by decide) ?_
                                  refine lv_iload hx hb dL_why_358 (lv_at hl 10 rfl) ?_
                                  refine lv_ishl hx hb dL_why_360 ?_
                                  refine lv_ior hx hb dL_why_361 ?_
                                  obtain ⟨w65, hq64, h⟩ := bd1_e h
                                  refine zz_mS (As := [.ref h_t, .ref h_m, .ref h_g, .int ((w38 0) ||| ((1 : Int32) <<< ((p5 - p5 / 100 * 100) &&& 31)))]) (wr := [(h_h, .inl (cI, 10, .inl fh)), (h_d, .inl (cI, 3, .inl w38))]) (w1 := [(h_t, .inl (cI, 24, .inl ft)), (h_m, .inl (cI, 16, .inl w65)), (h_g, .inl (cI, 7, .inl fg))]) (wt' := [(h_t, .inl (cI, 24, .inl ft)), (h_m, .inl (cI, 16, .inl w65)), (h_h, .inl (cI, 10, .inl fh)), (h_g, .inl (cI, 7, .inl fg)), (h_d, .inl (cI, 3, .inl w38))]) (wc := [(h_t, .inl (cI, 24, .inl ft)), (h_m, .inl (cI, 16, .inl w37)), (h_g, .inl (cI, 7, .inl fg))]) (rv := none) ⟨hx, hb, hml, hown, hts⟩ (kL_lay l D cI cZ cL H.size h_t h_m h_g ft w37 fg ((w38 0) ||| ((1 : Int32) <<< ((p5 - p5 / 100 * 100) &&& 31))) N hq64) (va_cwS 4 hts gL_why_L_lay rfl rfl rfl (by decide +kernel) ⟨Nat.le_of_ble_eq_true rfl, Nat.le_of_ble_eq_true rfl⟩) hP hD hS hA hKK [0, 1, 3] [2, 4] [2, 3, 0, 4, 1] rfl rfl (by decide) (by decide) rfl (by decide) (by decide) rfl hl.1 rfl (Nat.le_of_ble_eq_true rfl) dL_why_362 ⟨Nat.le_of_ble_eq_true rfl, Nat.le_of_ble_eq_true rfl⟩ (fun H locs hP hD hS hz9 => ?_)
                                  show W p l e _ s m _ below meth c H locs _ _ QQ (F0 m 365 ls [])
                                  refine lv_aload_n hx hb dL_why_365 rfl (lv_at hl 13 rfl) ?_
                                  refine lv_aload_n hx hb dL_why_366 rfl (lv_at hl 15 rfl) ?_
                                  refine lv_aload hx hb dL_why_367 (lv_at hl 16 rfl) ?_
                                  refine lv_iconst (v := 2) hx hb dL_why_369 (by decide) ?_
                                  refine va_iald hx hb hK hP 4 0 rfl rfl (by unfold vp_in; decide) dL_why_370 ?_
                                  obtain ⟨v66, hq67, h⟩ := bd1_e h
                                  refine zz_cS (As := [.ref h_m, .ref h_g, .int (w38 2)]) ⟨hx, hb, hml, hown, hts⟩ (kL_with l D cI cZ cL h_m h_g w65 fg (w38 2) N hq67) (va_cwS 3 hts gL_why_L_with rfl rfl rfl (by decide +kernel) ⟨Nat.le_of_ble_eq_true rfl, Nat.le_of_ble_eq_true rfl⟩) (hP.sub (ws' := [(h_m, .inl (cI, 16, .inl w65)), (h_g, .inl (cI, 7, .inl fg))]) [1, 3] rfl) hKK rfl hl.1 rfl (Nat.le_of_ble_eq_true rfl) dL_why_371 ⟨Nat.le_of_ble_eq_true rfl, Nat.le_of_ble_eq_true rfl⟩ ?_
                                  refine lv_aload_n hx hb dL_why_374 rfl (lv_at hl 13 rfl) ?_
                                  refine lv_aload_n hx hb dL_why_375 rfl (lv_at hl 15 rfl) ?_
                                  refine lv_aload_n hx hb dL_why_376 rfl (lv_at hl 15 rfl) ?_
                                  refine lv_iconst (v := 3) hx hb dL_why_377 (by decide) ?_
                                  refine va_iald hx hb hK hP 3 0 rfl rfl (by unfold vp_in; decide) dL_why_378 ?_
                                  obtain ⟨v68, hq69, h⟩ := bd1_e h
                                  refine zz_cS (As := [.ref h_m, .ref h_g, .int (fg 3)]) ⟨hx, hb, hml, hown, hts⟩ (kL_with l D cI cZ cL h_m h_g w65 fg (fg 3) N hq69) (va_cwS 3 hts gL_why_L_with rfl rfl rfl (by decide +kernel) ⟨Nat.le_of_ble_eq_true rfl, Nat.le_of_ble_eq_true rfl⟩) (hP.sub (ws' := [(h_m, .inl (cI, 16, .inl w65)), (h_g, .inl (cI, 7, .inl fg))]) [1, 3] rfl) hKK rfl hl.1 rfl (Nat.le_of_ble_eq_true rfl) dL_why_379 ⟨Nat.le_of_ble_eq_true rfl, Nat.le_of_ble_eq_true rfl⟩ ?_
                                  refine lv_iand hx hb dL_why_382 ?_
                                  refine lv_iload hx hb dL_why_383 (lv_at hl 5 rfl) ?_
                                  refine lv_iand hx hb dL_why_385 ?_
                                  refine lv_if_eq (tgt := 391) hx hb dL_why_386 (by decide) (fun c70 => ?_) (fun c70 => ?_)
                                  · have h := it_t h c70
                                    exact hg391_44 w65 w38 h H locs ls hP hD hS (lv_sub hl [0, 1, 2, 3, 4, 5, 6, 7, 8, 9, 10, 11, 12, 13, 14, 15, 16, 17] rfl)
                                  · have h := it_f h c70
                                    refine lv_iconst (v := 3) hx hb dL_why_389 (by decide) ?_
                                    cases h
                                    rw [hQQ]
                                    exact W.iret hx hb hr (fun t ht hW => ⟨rfl, by rw [ht]; exact hP, hD, hS.F ht⟩) hS.2.2 dL_why_390
                        · refine lv_if_eq (tgt := 327) hx hb dL_why_282 (by decide) (fun c71 => ?_) (fun c71 => ?_)
                          · have h := it_t h c71
                            exact hg327_40 w21 fd h H locs ls hP hD hS (lv_sub hl [0, 1, 2, 3, 4, 5, 6, 7, 8, 9, 10, 11, 12, 13, 14, 15, 16, 17] rfl)
                          · have h := it_f h c71
                            refine lv_iload hx hb dL_why_285 (lv_at hl 11 rfl) ?_
                            refine lv_if_ne (tgt := 327) hx hb dL_why_287 (by decide) (fun c72 => ?_) (fun c72 => ?_)
                            · have h := it_f h c72
                              exact hg327_40 w21 fd h H locs ls hP hD hS (lv_sub hl [0, 1, 2, 3, 4, 5, 6, 7, 8, 9, 10, 11, 12, 13, 14, 15, 16, 17] rfl)
                            · have h := it_t h c72
                              refine lv_iload hx hb dL_why_290 (lv_at hl 1 rfl) ?_
                              refine lv_iload hx hb dL_why_292 (lv_at hl 5 rfl) ?_
                              refine lv_iand hx hb dL_why_294 ?_
                              refine lv_if_eq (tgt := 327) hx hb dL_why_295 (by decide) (fun c73 => ?_) (fun c73 => ?_)
                              · have h := it_t h c73
                                exact hg327_40 w21 fd h H locs ls hP hD hS (lv_sub hl [0, 1, 2, 3, 4, 5, 6, 7, 8, 9, 10, 11, 12, 13, 14, 15, 16, 17] rfl)
                              · have h := it_f h c73
                                refine lv_aload_n hx hb dL_why_298 rfl (lv_at hl 12 rfl) ?_
                                refine lv_aload_n hx hb dL_why_299 rfl (lv_at hl 13 rfl) ?_
                                refine lv_aload_n hx hb dL_why_300 rfl (lv_at hl 15 rfl) ?_
                                refine lv_aload hx hb dL_why_301 (lv_at hl 16 rfl) ?_
                                refine lv_iconst (v := 0) hx hb dL_why_303 (by decide) ?_
                                refine va_iald hx hb hK hP 4 0 rfl rfl (by unfold vp_in; decide) dL_why_304 ?_
                                refine lv_iconst (v := 1) hx hb dL_why_305 (by decide) ?_
                                refine lv_iload hx hb dL_why_306 (lv_at hl 10 rfl) ?_
                                refine lv_ishl hx hb dL_why_308 ?_
                                refine lv_ixor hx hb dL_why_309 ?_
                                obtain ⟨w75, hq74, h⟩ := bd1_e h
                                refine zz_mS (As := [.ref h_t, .ref h_m, .ref h_g, .int ((fd 0) ^^^ ((1 : Int32) <<< ((p5 - p5 / 100 * 100) &&& 31)))]) (wr := [(h_h, .inl (cI, 10, .inl fh)), (h_d, .inl (cI, 3, .inl fd))]) (w1 := [(h_t, .inl (cI, 24, .inl ft)), (h_m, .inl (cI, 16, .inl w75)), (h_g, .inl (cI, 7, .inl fg))]) (wt' := [(h_t, .inl (cI, 24, .inl ft)), (h_m, .inl (cI, 16, .inl w75)), (h_h, .inl (cI, 10, .inl fh)), (h_g, .inl (cI, 7, .inl fg)), (h_d, .inl (cI, 3, .inl fd))]) (wc := [(h_t, .inl (cI, 24, .inl ft)), (h_m, .inl (cI, 16, .inl w21)), (h_g, .inl (cI, 7, .inl fg))]) (rv := none) ⟨hx, hb, hml, hown, hts⟩ (kL_lay l D cI cZ cL H.size h_t h_m h_g ft w21 fg ((fd 0) ^^^ ((1 : Int32) <<< ((p5 - p5 / 100 * 100) &&& 31))) N hq74) (va_cwS 4 hts gL_why_L_lay rfl rfl rfl (by decide +kernel) ⟨Nat.le_of_ble_eq_true rfl, Nat.le_of_ble_eq_true rfl⟩) hP hD hS hA hKK [0, 1, 3] [2, 4] [2, 3, 0, 4, 1] rfl rfl (by decide) (by decide) rfl (by decide) (by decide) rfl hl.1 rfl (Nat.le_of_ble_eq_true rfl) dL_why_310 ⟨Nat.le_of_ble_eq_true rfl, Nat.le_of_ble_eq_true rfl⟩ (fun H locs hP hD hS hz9 => ?_)
                                show W p l e _ s m _ below meth c H locs _ _ QQ (F0 m 313 ls [])
                                refine lv_aload_n hx hb dL_why_313 rfl (lv_at hl 13 rfl) ?_
                                refine lv_iload hx hb dL_why_314 (lv_at hl 7 rfl) ?_
                                obtain ⟨hi76, h⟩ := gin_e h
                                refine va_iald hx hb hK hP 1 0 rfl rfl hi76 dL_why_316 ?_
                                refine lv_iload hx hb dL_why_317 (lv_at hl 6 rfl) ?_
                                refine lv_ishr hx hb dL_why_319 ?_
                                refine lv_iconst (v := 1) hx hb dL_why_320 (by decide) ?_
                                refine lv_iand hx hb dL_why_321 ?_
                                refine lv_if_ne (tgt := 327) hx hb dL_why_322 (by decide) (fun c77 => ?_) (fun c77 => ?_)
                                · have h := it_f h c77
                                  exact hg327_40 w75 fd h H locs ls hP hD hS (lv_sub hl [0, 1, 2, 3, 4, 5, 6, 7, 8, 9, 10, 11, 12, 13, 14, 15, 16, 17] rfl)
                                · have h := it_t h c77
                                  refine lv_iconst (v := 3) hx hb dL_why_325 (by decide) ?_
                                  cases h
                                  rw [hQQ]
                                  exact W.iret hx hb hr (fun t ht hW => ⟨rfl, by rw [ht]; exact hP, hD, hS.F ht⟩) hS.2.2 dL_why_326
                      · refine lv_icmp_ge (tgt := 277) hx hb dL_why_260 (by decide) (fun c78 => ?_) (fun c78 => ?_)
                        · have h := it_t h c78
                          refine lv_iconst (v := 0) hx hb dL_why_277 (by decide) ?_
                          exact hg278_36 0 h H locs ls hP hD hS (lv_sub hl [0, 1, 2, 3, 4, 5, 6, 7, 8, 9, 10, 11, 12, 13, 14, 15, 16] rfl)
                        · have h := it_f h c78
                          refine lv_aload_n hx hb dL_why_263 rfl (lv_at hl 11 rfl) ?_
                          refine lv_iload hx hb dL_why_264 (lv_at hl 9 rfl) ?_
                          obtain ⟨hi79, h⟩ := gin_e h
                          refine va_iald hx hb hK hP 0 0 rfl rfl hi79 dL_why_266 ?_
                          refine lv_sipush (v := 256) hx hb dL_why_267 (by decide) ?_
                          refine lv_icmp_ge (tgt := 277) hx hb dL_why_270 (by decide) (fun c80 => ?_) (fun c80 => ?_)
                          · have h := it_t h c80
                            refine lv_iconst (v := 0) hx hb dL_why_277 (by decide) ?_
                            exact hg278_36 0 h H locs ls hP hD hS (lv_sub hl [0, 1, 2, 3, 4, 5, 6, 7, 8, 9, 10, 11, 12, 13, 14, 15, 16] rfl)
                          · have h := it_f h c80
                            refine lv_iconst (v := 1) hx hb dL_why_273 (by decide) ?_
                            refine lv_goto (tgt := 278) hx hb dL_why_274 (by decide) ?_
                            exact hg278_36 1 h H locs ls hP hD hS (lv_sub hl [0, 1, 2, 3, 4, 5, 6, 7, 8, 9, 10, 11, 12, 13, 14, 15, 16] rfl)
                    · refine lv_icmp_ne (tgt := 257) hx hb dL_why_244 (by decide) (fun c81 => ?_) (fun c81 => ?_)
                      · have h := it_f h c81
                        exact hg257_33 h H locs ls hP hD hS (lv_sub hl [0, 1, 2, 3, 4, 5, 6, 7, 8, 9, 10, 11, 12, 13, 14, 15, 16] rfl)
                      · have h := it_t h c81
                        refine lv_iload hx hb dL_why_247 (lv_at hl 1 rfl) ?_
                        refine lv_iload hx hb dL_why_249 (lv_at hl 4 rfl) ?_
                        refine lv_iand hx hb dL_why_251 ?_
                        refine lv_if_eq (tgt := 257) hx hb dL_why_252 (by decide) (fun c82 => ?_) (fun c82 => ?_)
                        · have h := it_t h c82
                          exact hg257_33 h H locs ls hP hD hS (lv_sub hl [0, 1, 2, 3, 4, 5, 6, 7, 8, 9, 10, 11, 12, 13, 14, 15, 16] rfl)
                        · have h := it_f h c82
                          refine lv_iconst (v := 3) hx hb dL_why_255 (by decide) ?_
                          cases h
                          rw [hQQ]
                          exact W.iret hx hb hr (fun t ht hW => ⟨rfl, by rw [ht]; exact hP, hD, hS.F ht⟩) hS.2.2 dL_why_256
                  · refine lv_icmp_ne (tgt := 241) hx hb dL_why_230 (by decide) (fun c83 => ?_) (fun c83 => ?_)
                    · have h := it_f h c83
                      exact hg241_31 h H locs ls hP hD hS (lv_sub hl [0, 1, 2, 3, 4, 5, 6, 7, 8, 9, 10, 11, 12, 13, 14, 15, 16] rfl)
                    · have h := it_t h c83
                      refine lv_iload hx hb dL_why_233 (lv_at hl 2 rfl) ?_
                      refine lv_iload hx hb dL_why_235 (lv_at hl 4 rfl) ?_
                      refine lv_iand hx hb dL_why_237 ?_
                      refine lv_if_ne (tgt := 255) hx hb dL_why_238 (by decide) (fun c84 => ?_) (fun c84 => ?_)
                      · have h := it_f h c84
                        refine lv_iconst (v := 3) hx hb dL_why_255 (by decide) ?_
                        cases h
                        rw [hQQ]
                        exact W.iret hx hb hr (fun t ht hW => ⟨rfl, by rw [ht]; exact hP, hD, hS.F ht⟩) hS.2.2 dL_why_256
                      · have h := it_t h c84
                        exact hg241_31 h H locs ls hP hD hS (lv_sub hl [0, 1, 2, 3, 4, 5, 6, 7, 8, 9, 10, 11, 12, 13, 14, 15, 16] rfl)
                · refine lv_icmp_ne (tgt := 227) hx hb dL_why_206 (by decide) (fun c85 => ?_) (fun c85 => ?_)
                  · have h := it_f h c85
                    exact hg227_29 h H locs ls hP hD hS (lv_sub hl [0, 1, 2, 3, 4, 5, 6, 7, 8, 9, 10, 11, 12, 13, 14, 15, 16] rfl)
                  · have h := it_t h c85
                    refine lv_iload hx hb dL_why_209 (lv_at hl 2 rfl) ?_
                    refine lv_iload hx hb dL_why_211 (lv_at hl 4 rfl) ?_
                    refine lv_iand hx hb dL_why_213 ?_
                    refine lv_if_eq (tgt := 227) hx hb dL_why_214 (by decide) (fun c86 => ?_) (fun c86 => ?_)
                    · have h := it_t h c86
                      exact hg227_29 h H locs ls hP hD hS (lv_sub hl [0, 1, 2, 3, 4, 5, 6, 7, 8, 9, 10, 11, 12, 13, 14, 15, 16] rfl)
                    · have h := it_f h c86
                      refine lv_iload hx hb dL_why_217 (lv_at hl 1 rfl) ?_
                      refine lv_iload hx hb dL_why_219 (lv_at hl 4 rfl) ?_
                      refine lv_iand hx hb dL_why_221 ?_
                      refine lv_if_eq (tgt := 227) hx hb dL_why_222 (by decide) (fun c87 => ?_) (fun c87 => ?_)
                      · have h := it_t h c87
                        exact hg227_29 h H locs ls hP hD hS (lv_sub hl [0, 1, 2, 3, 4, 5, 6, 7, 8, 9, 10, 11, 12, 13, 14, 15, 16] rfl)
                      · have h := it_f h c87
                        refine lv_iconst (v := 3) hx hb dL_why_225 (by decide) ?_
                        cases h
                        rw [hQQ]
                        exact W.iret hx hb hr (fun t ht hW => ⟨rfl, by rw [ht]; exact hP, hD, hS.F ht⟩) hS.2.2 dL_why_226
              · have h := it_f h c19
                refine lv_iconst (v := 2) hx hb dL_why_156 (by decide) ?_
                cases h
                rw [hQQ]
                exact W.iret hx hb hr (fun t ht hW => ⟨rfl, by rw [ht]; exact hP, hD, hS.F ht⟩) hS.2.2 dL_why_157
            · refine lv_icmp_ge (tgt := 126) hx hb dL_why_111 (by decide) (fun c88 => ?_) (fun c88 => ?_)
              · have h := it_t h c88
                refine lv_iload hx hb dL_why_126 (lv_at hl 3 rfl) ?_
                exact hg128_16 (p5 - p5 / 100 * 100) h H locs ls hP hD hS (lv_sub hl [0, 1, 2, 3, 4, 5, 6, 7, 8, 9, 10] rfl)
              · have h := it_f h c88
                refine lv_aload_n hx hb dL_why_114 rfl (lv_at hl 5 rfl) ?_
                refine lv_iload hx hb dL_why_115 (lv_at hl 3 rfl) ?_
                obtain ⟨hi89, h⟩ := gin_e h
                refine va_iald hx hb hK hP 0 0 rfl rfl hi89 dL_why_117 ?_
                refine lv_iconst (v := 4) hx hb dL_why_118 (by decide) ?_
                refine lv_ishr hx hb dL_why_119 ?_
                refine lv_bipush (v := 15) hx hb dL_why_120 (by decide) ?_
                refine lv_iand hx hb dL_why_122 ?_
                refine lv_goto (tgt := 128) hx hb dL_why_123 (by decide) ?_
                exact hg128_16 (((ft (p5 - p5 / 100 * 100).toNatClampNeg) >>> (4 &&& 31)) &&& 15) h H locs ls hP hD hS (lv_sub hl [0, 1, 2, 3, 4, 5, 6, 7, 8, 9, 10] rfl)
          · refine lv_icmp_ge (tgt := 104) hx hb dL_why_91 (by decide) (fun c90 => ?_) (fun c90 => ?_)
            · have h := it_t h c90
              refine lv_iload hx hb dL_why_104 (lv_at hl 2 rfl) ?_
              exact hg106_13 (p5 - p5 / 100 * 100) h H locs ls hP hD hS (lv_sub hl [0, 1, 2, 3, 4, 5, 6, 7, 8, 9] rfl)
            · have h := it_f h c90
              refine lv_aload_n hx hb dL_why_94 rfl (lv_at hl 4 rfl) ?_
              refine lv_iload hx hb dL_why_95 (lv_at hl 2 rfl) ?_
              obtain ⟨hi91, h⟩ := gin_e h
              refine va_iald hx hb hK hP 0 0 rfl rfl hi91 dL_why_97 ?_
              refine lv_bipush (v := 15) hx hb dL_why_98 (by decide) ?_
              refine lv_iand hx hb dL_why_100 ?_
              refine lv_goto (tgt := 106) hx hb dL_why_101 (by decide) ?_
              exact hg106_13 ((ft (p5 - p5 / 100 * 100).toNatClampNeg) &&& 15) h H locs ls hP hD hS (lv_sub hl [0, 1, 2, 3, 4, 5, 6, 7, 8, 9] rfl)
        · refine lv_icmp_le (tgt := 88) hx hb dL_why_72 (by decide) (fun c92 => ?_) (fun c92 => ?_)
          · have h := it_t h c92
            exact hg88_10 h H locs ls hP hD hS (lv_sub hl [0, 1, 2, 3, 4, 5, 6, 7, 8, 9] rfl)
          · have h := it_f h c92
            refine lv_aload_n hx hb dL_why_75 rfl (lv_at hl 7 rfl) ?_
            refine lv_iconst (v := 2) hx hb dL_why_76 (by decide) ?_
            refine va_iald hx hb hK hP 3 0 rfl rfl (by unfold vp_in; decide) dL_why_77 ?_
            refine lv_iload hx hb dL_why_78 (lv_at hl 2 rfl) ?_
            refine lv_ishr hx hb dL_why_80 ?_
            refine lv_iconst (v := 1) hx hb dL_why_81 (by decide) ?_
            refine lv_iand hx hb dL_why_82 ?_
            refine lv_if_ne (tgt := 88) hx hb dL_why_83 (by decide) (fun c93 => ?_) (fun c93 => ?_)
            · have h := it_f h c93
              exact hg88_10 h H locs ls hP hD hS (lv_sub hl [0, 1, 2, 3, 4, 5, 6, 7, 8, 9] rfl)
            · have h := it_t h c93
              refine lv_iconst (v := 1) hx hb dL_why_86 (by decide) ?_
              cases h
              rw [hQQ]
              exact W.iret hx hb hr (fun t ht hW => ⟨rfl, by rw [ht]; exact hP, hD, hS.F ht⟩) hS.2.2 dL_why_87
    · refine lv_icmp_eq (tgt := 55) hx hb dL_why_40 (by decide) (fun c94 => ?_) (fun c94 => ?_)
      · have h := it_t h c94
        refine lv_iconst (v := 1) hx hb dL_why_55 (by decide) ?_
        refine lv_goto (tgt := 60) hx hb dL_why_56 (by decide) ?_
        exact hg60_7 1 h H locs ls hP hD hS (lv_sub hl [0, 1, 2, 3, 4, 5, 6, 7, 8] rfl)
      · have h := it_f h c94
        refine lv_iload hx hb dL_why_43 (lv_at hl 2 rfl) ?_
        refine lv_iconst (v := 2) hx hb dL_why_45 (by decide) ?_
        refine lv_icmp_eq (tgt := 55) hx hb dL_why_46 (by decide) (fun c95 => ?_) (fun c95 => ?_)
        · have h := it_t h c95
          refine lv_iconst (v := 1) hx hb dL_why_55 (by decide) ?_
          refine lv_goto (tgt := 60) hx hb dL_why_56 (by decide) ?_
          exact hg60_7 1 h H locs ls hP hD hS (lv_sub hl [0, 1, 2, 3, 4, 5, 6, 7, 8] rfl)
        · have h := it_f h c95
          refine lv_iload hx hb dL_why_49 (lv_at hl 2 rfl) ?_
          refine lv_iconst (v := 4) hx hb dL_why_51 (by decide) ?_
          refine lv_icmp_ne (tgt := 59) hx hb dL_why_52 (by decide) (fun c96 => ?_) (fun c96 => ?_)
          · have h := it_f h c96
            refine lv_iconst (v := 0) hx hb dL_why_59 (by decide) ?_
            exact hg60_7 0 h H locs ls hP hD hS (lv_sub hl [0, 1, 2, 3, 4, 5, 6, 7, 8] rfl)
          · have h := it_t h c96
            refine lv_iconst (v := 1) hx hb dL_why_55 (by decide) ?_
            refine lv_goto (tgt := 60) hx hb dL_why_56 (by decide) ?_
            exact hg60_7 1 h H locs ls hP hD hS (lv_sub hl [0, 1, 2, 3, 4, 5, 6, 7, 8] rfl)
  · refine lv_icmp_ne (tgt := 34) hx hb dL_why_27 (by decide) (fun c97 => ?_) (fun c97 => ?_)
    · have h := it_f h c97
      refine lv_iconst (v := 0) hx hb dL_why_34 (by decide) ?_
      exact hg35_4 0 h H locs ls hP hD hS (lv_sub hl [0, 1, 2, 3, 4, 5, 6, 7] rfl)
    · have h := it_t h c97
      refine lv_iconst (v := 1) hx hb dL_why_30 (by decide) ?_
      refine lv_goto (tgt := 35) hx hb dL_why_31 (by decide) ?_
      exact hg35_4 1 h H locs ls hP hD hS (lv_sub hl [0, 1, 2, 3, 4, 5, 6, 7] rfl)

def fL_randomAct (N : Nat) (fg : Nat → Int32) (p0 : Int32) : Option ((Int32)) :=
  bd1 (fL_low N  p0 10) (fun v1 => jn1 (fun (y3 : Int32) => jn1 (fun (x6 : Int32) => (if 2 ≤ x6 then bd1 (fL_low N  (p0 >>> (5 &&& 31)) (fg 0)) (fun v10 => some (((100 : Int32) * x6) + v10)) else bd1 (fL_low N  (p0 >>> (5 &&& 31)) (fg 1)) (fun v12 => some (((100 : Int32) * x6) + v12)))) (fun g33_7 => (if 2 ≤ y3 then g33_7 y3 else (if (fg 1) = 0 then g33_7 4 else g33_7 y3)))) (fun g19_4 => (if v1 ≤ 5 then g19_4 v1 else g19_4 (v1 - v1 / 2 * 2))))
abbrev rmL_randomAct : Room := { frames := 1, cells := 0, slots := 0, locals := 21 }
set_option maxHeartbeats 16000000 in
set_option maxRecDepth 200000 in
theorem kL_randomAct (l : Launch) (D : va_G) (cI cZ cL : ClassId) (h_g : Nat) (fg : Nat → Int32) (p0 : Int32) (N : Nat) {r : Int32} (h : fL_randomAct N fg p0 = some r) : Met l yL_randomAct wsL_randomAct rmL_randomAct (PR D cI cZ cL [.int p0, .ref h_g] [(h_g, .inl (cI, 7, .inl fg))]) (vp_Si (fun z => z = r)) 0 0 (fun _ => False) := by
  refine Met.ofW (cc := cL_randomAct) (maxL := 3) (ret := (some .int)) (by decide) rfl ?_
  intro p e s m args below meth c s₁ B hml hv
  obtain ⟨rfl, hP, hKK⟩ := hv
  have hK := hKK.1
  have hx := B.exec
  have hb := B.bytes
  have hr := B.returns
  have hts := atoms_spec (ws := wsL_randomAct) B.pre
  have hown : s.vm.findClass RL = some m.cls := findClass_of_methodNamed B.named
  have hlocks := B.notSynchronized
  have hl := lv_entry ([.int p0, .ref h_g]) (n := 3) (Nat.le_of_ble_eq_true rfl)
  rw [lg_entry_eq]
  generalize (lg_sl ([.int p0, .ref h_g]) ++ List.replicate (3 - (lg_sl ([.int p0, .ref h_g])).length) Slot.unset).toArray = ls at hl ⊢
  have hl : lv_has ls 3 [(0, .int p0), (1, .ref h_g)] := hl
  obtain ⟨QQ, hQQ⟩ : ∃ Z, Z = MQ below (vp_Si (fun z => z = r)) ([.int p0, .ref h_g] : List Value).toArray s 0 0 (fun _ => False) := ⟨_, rfl⟩
  rw [← hQQ]
  unfold fL_randomAct at h
  refine lv_iload_n hx hb dL_randomAct_0 rfl (lv_at hl 0 rfl) ?_
  refine lv_bipush (v := 10) hx hb dL_randomAct_1 (by decide) ?_
  obtain ⟨v1, hq2, h⟩ := bd1_e h
  refine zz_cS (As := [.int p0, .int 10]) ⟨hx, hb, hml, hown, hts⟩ (kL_low l D cI cZ cL p0 10 N hq2) (va_cwS 2 hts gL_randomAct_L_low rfl rfl rfl (by decide +kernel) ⟨Nat.le_of_ble_eq_true rfl, Nat.le_of_ble_eq_true rfl⟩) (hP.sub (ws' := []) [] rfl) hKK rfl hl.1 rfl (Nat.le_of_ble_eq_true rfl) dL_randomAct_3 ⟨Nat.le_of_ble_eq_true rfl, Nat.le_of_ble_eq_true rfl⟩ ?_
  refine lv_istore_n (lv' := [(2, .int v1), (0, .int p0), (1, .ref h_g)]) hx hb dL_randomAct_6 rfl hl (by decide) rfl (fun ls hl => ?_)
  refine lv_iload_n hx hb dL_randomAct_7 rfl (lv_at hl 0 rfl) ?_
  refine lv_iconst (v := 5) hx hb dL_randomAct_8 (by decide) ?_
  refine jn1_e (fun (y3 : Int32) => ∀ ls : Array Slot, lv_has ls 3 [(2, .int v1), (0, .int p0), (1, .ref h_g)] → W p l e (headSpec wsL_randomAct rmL_randomAct).room s m (([.int p0, .ref h_g] : List Value).toArray) below meth c s.heap [] (0) (0) QQ (F0 m 19 ls [.int y3])) h (fun y3 h ls hl => ?_) (fun g19_4 hg19_5 h => ?_)
  · refine lv_istore_n (lv' := [(2, .int y3), (0, .int p0), (1, .ref h_g)]) hx hb dL_randomAct_19 rfl hl (by decide) rfl (fun ls hl => ?_)
    refine lv_iload_n hx hb dL_randomAct_20 rfl (lv_at hl 0 rfl) ?_
    refine lv_iconst (v := 2) hx hb dL_randomAct_21 (by decide) ?_
    refine jn1_e (fun (x6 : Int32) => ∀ ls : Array Slot, lv_has ls 3 [(2, .int x6), (0, .int p0), (1, .ref h_g)] → W p l e (headSpec wsL_randomAct rmL_randomAct).room s m (([.int p0, .ref h_g] : List Value).toArray) below meth c s.heap [] (0) (0) QQ (F0 m 33 ls [])) h (fun x6 h ls hl => ?_) (fun g33_7 hg33_8 h => ?_)
    · refine lv_bipush (v := 100) hx hb dL_randomAct_33 (by decide) ?_
      refine lv_iload_n hx hb dL_randomAct_35 rfl (lv_at hl 0 rfl) ?_
      refine lv_imul hx hb dL_randomAct_36 ?_
      refine lv_iload_n hx hb dL_randomAct_37 rfl (lv_at hl 1 rfl) ?_
      refine lv_iconst (v := 5) hx hb dL_randomAct_38 (by decide) ?_
      refine lv_ishr hx hb dL_randomAct_39 ?_
      refine lv_iload_n hx hb dL_randomAct_40 rfl (lv_at hl 0 rfl) ?_
      refine lv_iconst (v := 2) hx hb dL_randomAct_41 (by decide) ?_
      refine lv_icmp_ge (tgt := 51) hx hb dL_randomAct_42 (by decide) (fun c9 => ?_) (fun c9 => ?_)
      · have h := it_t h c9
        refine lv_aload_n hx hb dL_randomAct_51 rfl (lv_at hl 2 rfl) ?_
        refine lv_iconst (v := 0) hx hb dL_randomAct_52 (by decide) ?_
        refine va_iald hx hb hK hP 0 0 rfl rfl (by unfold vp_in; decide) dL_randomAct_53 ?_
        obtain ⟨v10, hq11, h⟩ := bd1_e h
        refine zz_cS (As := [.int (p0 >>> (5 &&& 31)), .int (fg 0)]) ⟨hx, hb, hml, hown, hts⟩ (kL_low l D cI cZ cL (p0 >>> (5 &&& 31)) (fg 0) N hq11) (va_cwS 2 hts gL_randomAct_L_low rfl rfl rfl (by decide +kernel) ⟨Nat.le_of_ble_eq_true rfl, Nat.le_of_ble_eq_true rfl⟩) (hP.sub (ws' := []) [] rfl) hKK rfl hl.1 rfl (Nat.le_of_ble_eq_true rfl) dL_randomAct_54 ⟨Nat.le_of_ble_eq_true rfl, Nat.le_of_ble_eq_true rfl⟩ ?_
        refine lv_iadd hx hb dL_randomAct_57 ?_
        rw [hQQ]
        exact W.iret (v := ((100 : Int32) * x6) + v10) hx hb hr (fun t ht hW => ⟨_, rfl, Option.some.inj h, ht⟩) (fun q hq => absurd hq List.not_mem_nil) dL_randomAct_58
      · have h := it_f h c9
        refine lv_aload_n hx hb dL_randomAct_45 rfl (lv_at hl 2 rfl) ?_
        refine lv_iconst (v := 1) hx hb dL_randomAct_46 (by decide) ?_
        refine va_iald hx hb hK hP 0 0 rfl rfl (by unfold vp_in; decide) dL_randomAct_47 ?_
        refine lv_goto (tgt := 54) hx hb dL_randomAct_48 (by decide) ?_
        obtain ⟨v12, hq13, h⟩ := bd1_e h
        refine zz_cS (As := [.int (p0 >>> (5 &&& 31)), .int (fg 1)]) ⟨hx, hb, hml, hown, hts⟩ (kL_low l D cI cZ cL (p0 >>> (5 &&& 31)) (fg 1) N hq13) (va_cwS 2 hts gL_randomAct_L_low rfl rfl rfl (by decide +kernel) ⟨Nat.le_of_ble_eq_true rfl, Nat.le_of_ble_eq_true rfl⟩) (hP.sub (ws' := []) [] rfl) hKK rfl hl.1 rfl (Nat.le_of_ble_eq_true rfl) dL_randomAct_54 ⟨Nat.le_of_ble_eq_true rfl, Nat.le_of_ble_eq_true rfl⟩ ?_
        refine lv_iadd hx hb dL_randomAct_57 ?_
        rw [hQQ]
        exact W.iret (v := ((100 : Int32) * x6) + v12) hx hb hr (fun t ht hW => ⟨_, rfl, Option.some.inj h, ht⟩) (fun q hq => absurd hq List.not_mem_nil) dL_randomAct_58
    · refine lv_icmp_ge (tgt := 33) hx hb dL_randomAct_22 (by decide) (fun c14 => ?_) (fun c14 => ?_)
      · have h := it_t h c14
        exact hg33_8 y3 h ls (lv_sub hl [0, 1, 2] rfl)
      · have h := it_f h c14
        refine lv_aload_n hx hb dL_randomAct_25 rfl (lv_at hl 2 rfl) ?_
        refine lv_iconst (v := 1) hx hb dL_randomAct_26 (by decide) ?_
        refine va_iald hx hb hK hP 0 0 rfl rfl (by unfold vp_in; decide) dL_randomAct_27 ?_
        refine lv_if_ne (tgt := 33) hx hb dL_randomAct_28 (by decide) (fun c15 => ?_) (fun c15 => ?_)
        · have h := it_f h c15
          exact hg33_8 y3 h ls (lv_sub hl [0, 1, 2] rfl)
        · have h := it_t h c15
          refine lv_iconst (v := 4) hx hb dL_randomAct_31 (by decide) ?_
          refine lv_istore_n (lv' := [(2, .int 4), (0, .int p0), (1, .ref h_g)]) hx hb dL_randomAct_32 rfl hl (by decide) rfl (fun ls hl => ?_)
          exact hg33_8 4 h ls (lv_sub hl [0, 1, 2] rfl)
  · refine lv_icmp_le (tgt := 18) hx hb dL_randomAct_9 (by decide) (fun c16 => ?_) (fun c16 => ?_)
    · have h := it_t h c16
      refine lv_iload_n hx hb dL_randomAct_18 rfl (lv_at hl 0 rfl) ?_
      exact hg19_5 v1 h ls (lv_sub hl [0, 1, 2] rfl)
    · have h := it_f h c16
      refine lv_iload_n hx hb dL_randomAct_12 rfl (lv_at hl 0 rfl) ?_
      refine lv_iconst (v := 2) hx hb dL_randomAct_13 (by decide) ?_
      refine lv_irem hx hb dL_randomAct_14 (by decide) ?_
      refine lv_goto (tgt := 19) hx hb dL_randomAct_15 (by decide) ?_
      exact hg19_5 (v1 - v1 / 2 * 2) h ls (lv_sub hl [0, 1, 2] rfl)
