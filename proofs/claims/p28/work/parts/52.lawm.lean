def fL_low (N : Nat)  (p0 : Int32) (p1 : Int32) : Option ((Int32)) :=
  gd (decide (¬ p1 = 0)) (some ((((p0 : Int32).toUInt32 >>> ((1 : Int32).toUInt32 &&& Int32.toUInt32 31)).toInt32) - (((p0 : Int32).toUInt32 >>> ((1 : Int32).toUInt32 &&& Int32.toUInt32 31)).toInt32) / p1 * p1))
abbrev rmL_low : Room := { frames := 0, cells := 0, slots := 0, locals := 0 }
set_option maxHeartbeats 16000000 in
set_option maxRecDepth 200000 in
theorem kL_low (l : Launch) (D : va_G) (cI cZ cL : ClassId)  (p0 : Int32) (p1 : Int32) (N : Nat) {r : Int32} (h : fL_low N p0 p1 = some r) : Met l yL_low wsL_low rmL_low (PR D cI cZ cL [.int p0, .int p1] []) (vp_Si (fun z => z = r)) 0 0 (fun _ => False) := by
  refine Met.ofW (cc := cL_low) (maxL := 2) (ret := (some .int)) (by decide) rfl ?_
  intro p e s m args below meth c s₁ B hml hv
  obtain ⟨rfl, hP, hKK⟩ := hv
  have hK := hKK.1
  have hx := B.exec
  have hb := B.bytes
  have hr := B.returns
  have hts := atoms_spec (ws := wsL_low) B.pre
  have hown : s.vm.findClass RL = some m.cls := findClass_of_methodNamed B.named
  have hlocks := B.notSynchronized
  have hl := lv_entry ([.int p0, .int p1]) (n := 2) (Nat.le_of_ble_eq_true rfl)
  rw [lg_entry_eq]
  generalize (lg_sl ([.int p0, .int p1]) ++ List.replicate (2 - (lg_sl ([.int p0, .int p1])).length) Slot.unset).toArray = ls at hl ⊢
  have hl : lv_has ls 2 [(0, .int p0), (1, .int p1)] := hl
  obtain ⟨QQ, hQQ⟩ : ∃ Z, Z = MQ below (vp_Si (fun z => z = r)) ([.int p0, .int p1] : List Value).toArray s 0 0 (fun _ => False) := ⟨_, rfl⟩
  rw [← hQQ]
  unfold fL_low at h
  refine lv_iload_n hx hb dL_low_0 rfl (lv_at hl 0 rfl) ?_
  refine lv_iconst (v := 1) hx hb dL_low_1 (by decide) ?_
  refine lv_iushr hx hb dL_low_2 rfl ?_
  refine lv_iload_n hx hb dL_low_3 rfl (lv_at hl 1 rfl) ?_
  obtain ⟨hz1, h⟩ := gd_e h
  refine lv_irem hx hb dL_low_4 (of_decide_eq_true hz1) ?_
  rw [hQQ]
  exact W.iret (v := (((p0 : Int32).toUInt32 >>> ((1 : Int32).toUInt32 &&& Int32.toUInt32 31)).toInt32) - (((p0 : Int32).toUInt32 >>> ((1 : Int32).toUInt32 &&& Int32.toUInt32 31)).toInt32) / p1 * p1) hx hb hr (fun t ht hW => ⟨_, rfl, Option.some.inj h, ht⟩) (fun q hq => absurd hq List.not_mem_nil) dL_low_5

def fL_opposite (N : Nat)  (p0 : Int32) : Option ((Int32)) :=
  some ((((p0 / 100) ^^^ 1) * 100) + (p0 - p0 / 100 * 100))
abbrev rmL_opposite : Room := { frames := 0, cells := 0, slots := 0, locals := 0 }
set_option maxHeartbeats 16000000 in
set_option maxRecDepth 200000 in
theorem kL_opposite (l : Launch) (D : va_G) (cI cZ cL : ClassId)  (p0 : Int32) (N : Nat) {r : Int32} (h : fL_opposite N p0 = some r) : Met l yL_opposite wsL_opposite rmL_opposite (PR D cI cZ cL [.int p0] []) (vp_Si (fun z => z = r)) 0 0 (fun _ => False) := by
  refine Met.ofW (cc := cL_opposite) (maxL := 1) (ret := (some .int)) (by decide) rfl ?_
  intro p e s m args below meth c s₁ B hml hv
  obtain ⟨rfl, hP, hKK⟩ := hv
  have hK := hKK.1
  have hx := B.exec
  have hb := B.bytes
  have hr := B.returns
  have hts := atoms_spec (ws := wsL_opposite) B.pre
  have hown : s.vm.findClass RL = some m.cls := findClass_of_methodNamed B.named
  have hlocks := B.notSynchronized
  have hl := lv_entry ([.int p0]) (n := 1) (Nat.le_of_ble_eq_true rfl)
  rw [lg_entry_eq]
  generalize (lg_sl ([.int p0]) ++ List.replicate (1 - (lg_sl ([.int p0])).length) Slot.unset).toArray = ls at hl ⊢
  have hl : lv_has ls 1 [(0, .int p0)] := hl
  obtain ⟨QQ, hQQ⟩ : ∃ Z, Z = MQ below (vp_Si (fun z => z = r)) ([.int p0] : List Value).toArray s 0 0 (fun _ => False) := ⟨_, rfl⟩
  rw [← hQQ]
  unfold fL_opposite at h
  refine lv_iload_n hx hb dL_opposite_0 rfl (lv_at hl 0 rfl) ?_
  refine lv_bipush (v := 100) hx hb dL_opposite_1 (by decide) ?_
  refine lv_idiv hx hb dL_opposite_3 (by decide) ?_
  refine lv_iconst (v := 1) hx hb dL_opposite_4 (by decide) ?_
  refine lv_ixor hx hb dL_opposite_5 ?_
  refine lv_bipush (v := 100) hx hb dL_opposite_6 (by decide) ?_
  refine lv_imul hx hb dL_opposite_8 ?_
  refine lv_iload_n hx hb dL_opposite_9 rfl (lv_at hl 0 rfl) ?_
  refine lv_bipush (v := 100) hx hb dL_opposite_10 (by decide) ?_
  refine lv_irem hx hb dL_opposite_12 (by decide) ?_
  refine lv_iadd hx hb dL_opposite_13 ?_
  rw [hQQ]
  exact W.iret (v := (((p0 / 100) ^^^ 1) * 100) + (p0 - p0 / 100 * 100)) hx hb hr (fun t ht hW => ⟨_, rfl, Option.some.inj h, ht⟩) (fun q hq => absurd hq List.not_mem_nil) dL_opposite_14

def fL_with (N : Nat) (fm : Nat → Int32) (fg : Nat → Int32) (p2 : Int32) : Option ((Int32)) :=
  it2 (fun g5_3 (x1 : Int32) (x2 : Int32) => gin 0 7 ((if (fg (0 : Int32).toNatClampNeg) ≤ x1 then some x2 else gin x1 16 ((if ((fm x1.toNatClampNeg) &&& p2) = 0 then g5_3 (x1 + 1) x2 else g5_3 (x1 + 1) (x2 ||| ((1 : Int32) <<< (x1 &&& 31)))))))) N 0 0
abbrev rmL_with : Room := { frames := 0, cells := 0, slots := 0, locals := 0 }
set_option maxHeartbeats 16000000 in
set_option maxRecDepth 200000 in
theorem kL_with (l : Launch) (D : va_G) (cI cZ cL : ClassId) (h_m h_g : Nat) (fm : Nat → Int32) (fg : Nat → Int32) (p2 : Int32) (N : Nat) {r : Int32} (h : fL_with N fm fg p2 = some r) : Met l yL_with wsL_with rmL_with (PR D cI cZ cL [.ref h_m, .ref h_g, .int p2] [(h_m, .inl (cI, 16, .inl fm)), (h_g, .inl (cI, 7, .inl fg))]) (vp_Si (fun z => z = r)) 0 0 (fun _ => False) := by
  refine Met.ofW (cc := cL_with) (maxL := 5) (ret := (some .int)) (by decide) rfl ?_
  intro p e s m args below meth c s₁ B hml hv
  obtain ⟨rfl, hP, hKK⟩ := hv
  have hK := hKK.1
  have hx := B.exec
  have hb := B.bytes
  have hr := B.returns
  have hts := atoms_spec (ws := wsL_with) B.pre
  have hown : s.vm.findClass RL = some m.cls := findClass_of_methodNamed B.named
  have hlocks := B.notSynchronized
  have hl := lv_entry ([.ref h_m, .ref h_g, .int p2]) (n := 5) (Nat.le_of_ble_eq_true rfl)
  rw [lg_entry_eq]
  generalize (lg_sl ([.ref h_m, .ref h_g, .int p2]) ++ List.replicate (5 - (lg_sl ([.ref h_m, .ref h_g, .int p2])).length) Slot.unset).toArray = ls at hl ⊢
  have hl : lv_has ls 5 [(0, .ref h_m), (1, .ref h_g), (2, .int p2)] := hl
  obtain ⟨QQ, hQQ⟩ : ∃ Z, Z = MQ below (vp_Si (fun z => z = r)) ([.ref h_m, .ref h_g, .int p2] : List Value).toArray s 0 0 (fun _ => False) := ⟨_, rfl⟩
  rw [← hQQ]
  unfold fL_with at h
  refine lv_iconst (v := 0) hx hb dL_with_0 (by decide) ?_
  refine lv_istore_n (lv' := [(3, .int 0), (0, .ref h_m), (1, .ref h_g), (2, .int p2)]) hx hb dL_with_1 rfl hl (by decide) rfl (fun ls hl => ?_)
  refine lv_iconst (v := 0) hx hb dL_with_2 (by decide) ?_
  refine lv_istore (lv' := [(4, .int 0), (3, .int 0), (0, .ref h_m), (1, .ref h_g), (2, .int p2)]) hx hb dL_with_3 hl (by decide) rfl (fun ls hl => ?_)
  refine it2_e (fun (x1 : Int32) (x2 : Int32) => ∀ ls : Array Slot, lv_has ls 5 [(4, .int x1), (3, .int x2), (0, .ref h_m), (1, .ref h_g), (2, .int p2)] → W p l e (headSpec wsL_with rmL_with).room s m (([.ref h_m, .ref h_g, .int p2] : List Value).toArray) below meth c s.heap [] (0) (0) QQ (F0 m 5 ls [])) (fun g5_3 hg5_4 x1 x2 h ls hl => ?_) N 0 0 h ls (lv_sub hl [0, 1, 2, 3, 4] rfl)
  refine lv_iload hx hb dL_with_5 (lv_at hl 0 rfl) ?_
  refine lv_aload_n hx hb dL_with_7 rfl (lv_at hl 3 rfl) ?_
  refine lv_iconst (v := 0) hx hb dL_with_8 (by decide) ?_
  obtain ⟨hi5, h⟩ := gin_e h
  refine va_iald hx hb hK hP 1 0 rfl rfl hi5 dL_with_9 ?_
  refine lv_icmp_ge (tgt := 35) hx hb dL_with_10 (by decide) (fun c6 => ?_) (fun c6 => ?_)
  · have h := it_t h c6
    refine lv_iload_n hx hb dL_with_35 rfl (lv_at hl 1 rfl) ?_
    rw [hQQ]
    exact W.iret (v := x2) hx hb hr (fun t ht hW => ⟨_, rfl, Option.some.inj h, ht⟩) (fun q hq => absurd hq List.not_mem_nil) dL_with_36
  · have h := it_f h c6
    refine lv_aload_n hx hb dL_with_13 rfl (lv_at hl 2 rfl) ?_
    refine lv_iload hx hb dL_with_14 (lv_at hl 0 rfl) ?_
    obtain ⟨hi7, h⟩ := gin_e h
    refine va_iald hx hb hK hP 0 0 rfl rfl hi7 dL_with_16 ?_
    refine lv_iload_n hx hb dL_with_17 rfl (lv_at hl 4 rfl) ?_
    refine lv_iand hx hb dL_with_18 ?_
    refine lv_if_eq (tgt := 29) hx hb dL_with_19 (by decide) (fun c8 => ?_) (fun c8 => ?_)
    · have h := it_t h c8
      refine lv_iinc (v := x1 + 1) (lv' := [(4, .int (x1 + 1)), (3, .int x2), (0, .ref h_m), (1, .ref h_g), (2, .int p2)]) hx hb dL_with_29 hl (k := 0) rfl rfl (by decide) rfl (fun ls hl => ?_)
      refine lv_goto (tgt := 5) hx hb dL_with_32 (by decide) ?_
      exact hg5_4 (x1 + 1) x2 h ls (lv_sub hl [0, 1, 2, 3, 4] rfl)
    · have h := it_f h c8
      refine lv_iload_n hx hb dL_with_22 rfl (lv_at hl 1 rfl) ?_
      refine lv_iconst (v := 1) hx hb dL_with_23 (by decide) ?_
      refine lv_iload hx hb dL_with_24 (lv_at hl 0 rfl) ?_
      refine lv_ishl hx hb dL_with_26 ?_
      refine lv_ior hx hb dL_with_27 ?_
      refine lv_istore_n (lv' := [(3, .int (x2 ||| ((1 : Int32) <<< (x1 &&& 31)))), (4, .int x1), (0, .ref h_m), (1, .ref h_g), (2, .int p2)]) hx hb dL_with_28 rfl hl (by decide) rfl (fun ls hl => ?_)
      refine lv_iinc (v := x1 + 1) (lv' := [(4, .int (x1 + 1)), (3, .int (x2 ||| ((1 : Int32) <<< (x1 &&& 31)))), (0, .ref h_m), (1, .ref h_g), (2, .int p2)]) hx hb dL_with_29 hl (k := 1) rfl rfl (by decide) rfl (fun ls hl => ?_)
      refine lv_goto (tgt := 5) hx hb dL_with_32 (by decide) ?_
      exact hg5_4 (x1 + 1) (x2 ||| ((1 : Int32) <<< (x1 &&& 31))) h ls (lv_sub hl [0, 1, 2, 3, 4] rfl)

def fL_held (N : Nat) (fh : Nat → Int32) (fg : Nat → Int32)  : Option ((Int32)) :=
  it2 (fun g4_3 (x1 : Int32) (x2 : Int32) => gin 6 7 ((if (fg (6 : Int32).toNatClampNeg) ≤ x1 then some x2 else gin x1 10 (g4_3 (x1 + 1) (x2 ||| (fh x1.toNatClampNeg)))))) N 0 0
abbrev rmL_held : Room := { frames := 0, cells := 0, slots := 0, locals := 0 }
set_option maxHeartbeats 16000000 in
set_option maxRecDepth 200000 in
theorem kL_held (l : Launch) (D : va_G) (cI cZ cL : ClassId) (h_h h_g : Nat) (fh : Nat → Int32) (fg : Nat → Int32)  (N : Nat) {r : Int32} (h : fL_held N fh fg = some r) : Met l yL_held wsL_held rmL_held (PR D cI cZ cL [.ref h_h, .ref h_g] [(h_h, .inl (cI, 10, .inl fh)), (h_g, .inl (cI, 7, .inl fg))]) (vp_Si (fun z => z = r)) 0 0 (fun _ => False) := by
  refine Met.ofW (cc := cL_held) (maxL := 4) (ret := (some .int)) (by decide) rfl ?_
  intro p e s m args below meth c s₁ B hml hv
  obtain ⟨rfl, hP, hKK⟩ := hv
  have hK := hKK.1
  have hx := B.exec
  have hb := B.bytes
  have hr := B.returns
  have hts := atoms_spec (ws := wsL_held) B.pre
  have hown : s.vm.findClass RL = some m.cls := findClass_of_methodNamed B.named
  have hlocks := B.notSynchronized
  have hl := lv_entry ([.ref h_h, .ref h_g]) (n := 4) (Nat.le_of_ble_eq_true rfl)
  rw [lg_entry_eq]
  generalize (lg_sl ([.ref h_h, .ref h_g]) ++ List.replicate (4 - (lg_sl ([.ref h_h, .ref h_g])).length) Slot.unset).toArray = ls at hl ⊢
  have hl : lv_has ls 4 [(0, .ref h_h), (1, .ref h_g)] := hl
  obtain ⟨QQ, hQQ⟩ : ∃ Z, Z = MQ below (vp_Si (fun z => z = r)) ([.ref h_h, .ref h_g] : List Value).toArray s 0 0 (fun _ => False) := ⟨_, rfl⟩
  rw [← hQQ]
  unfold fL_held at h
  refine lv_iconst (v := 0) hx hb dL_held_0 (by decide) ?_
  refine lv_istore_n (lv' := [(2, .int 0), (0, .ref h_h), (1, .ref h_g)]) hx hb dL_held_1 rfl hl (by decide) rfl (fun ls hl => ?_)
  refine lv_iconst (v := 0) hx hb dL_held_2 (by decide) ?_
  refine lv_istore_n (lv' := [(3, .int 0), (2, .int 0), (0, .ref h_h), (1, .ref h_g)]) hx hb dL_held_3 rfl hl (by decide) rfl (fun ls hl => ?_)
  refine it2_e (fun (x1 : Int32) (x2 : Int32) => ∀ ls : Array Slot, lv_has ls 4 [(3, .int x1), (2, .int x2), (0, .ref h_h), (1, .ref h_g)] → W p l e (headSpec wsL_held rmL_held).room s m (([.ref h_h, .ref h_g] : List Value).toArray) below meth c s.heap [] (0) (0) QQ (F0 m 4 ls [])) (fun g4_3 hg4_4 x1 x2 h ls hl => ?_) N 0 0 h ls (lv_sub hl [0, 1, 2, 3] rfl)
  refine lv_iload_n hx hb dL_held_4 rfl (lv_at hl 0 rfl) ?_
  refine lv_aload_n hx hb dL_held_5 rfl (lv_at hl 3 rfl) ?_
  refine lv_bipush (v := 6) hx hb dL_held_6 (by decide) ?_
  obtain ⟨hi5, h⟩ := gin_e h
  refine va_iald hx hb hK hP 1 0 rfl rfl hi5 dL_held_8 ?_
  refine lv_icmp_ge (tgt := 24) hx hb dL_held_9 (by decide) (fun c6 => ?_) (fun c6 => ?_)
  · have h := it_t h c6
    refine lv_iload_n hx hb dL_held_24 rfl (lv_at hl 1 rfl) ?_
    rw [hQQ]
    exact W.iret (v := x2) hx hb hr (fun t ht hW => ⟨_, rfl, Option.some.inj h, ht⟩) (fun q hq => absurd hq List.not_mem_nil) dL_held_25
  · have h := it_f h c6
    refine lv_iload_n hx hb dL_held_12 rfl (lv_at hl 1 rfl) ?_
    refine lv_aload_n hx hb dL_held_13 rfl (lv_at hl 2 rfl) ?_
    refine lv_iload_n hx hb dL_held_14 rfl (lv_at hl 0 rfl) ?_
    obtain ⟨hi7, h⟩ := gin_e h
    refine va_iald hx hb hK hP 0 0 rfl rfl hi7 dL_held_15 ?_
    refine lv_ior hx hb dL_held_16 ?_
    refine lv_istore_n (lv' := [(2, .int (x2 ||| (fh x1.toNatClampNeg))), (3, .int x1), (0, .ref h_h), (1, .ref h_g)]) hx hb dL_held_17 rfl hl (by decide) rfl (fun ls hl => ?_)
    refine lv_iinc (v := x1 + 1) (lv' := [(3, .int (x1 + 1)), (2, .int (x2 ||| (fh x1.toNatClampNeg))), (0, .ref h_h), (1, .ref h_g)]) hx hb dL_held_18 hl (k := 1) rfl rfl (by decide) rfl (fun ls hl => ?_)
    refine lv_goto (tgt := 4) hx hb dL_held_21 (by decide) ?_
    exact hg4_4 (x1 + 1) (x2 ||| (fh x1.toNatClampNeg)) h ls (lv_sub hl [0, 1, 2, 3] rfl)

def fL_lay (N : Nat) (ft : Nat → Int32) (fm : Nat → Int32) (fg : Nat → Int32) (p3 : Int32) : Option ((Nat → Int32)) :=
  it2 (fun g3_3 (x1 : Int32) (w2 : Nat → Int32) => gin 0 7 ((if (fg (0 : Int32).toNatClampNeg) ≤ x1 then it2 (fun g28_9 (x7 : Int32) (w8 : Nat → Int32) => gin 1 7 ((if (fg (1 : Int32).toNatClampNeg) ≤ x7 then some w8 else (if ((p3 >>> (x7 &&& 31)) &&& 1) = 0 then g28_9 (x7 + 1) w8 else gin x7 24 (gin ((ft x7.toNatClampNeg) &&& 15) 16 (gin x7 24 (gin (((ft x7.toNatClampNeg) >>> (4 &&& 31)) &&& 15) 16 (it2 (fun g74_20 (x18 : Int32) (w19 : Nat → Int32) => gin 0 7 ((if (fg (0 : Int32).toNatClampNeg) ≤ x18 then g28_9 (x7 + 1) w19 else (if ((((w8 ((ft x7.toNatClampNeg) &&& 15).toNatClampNeg) ||| (w8 (((ft x7.toNatClampNeg) >>> (4 &&& 31)) &&& 15).toNatClampNeg)) >>> (x18 &&& 31)) &&& 1) = 1 then gin x18 16 (g74_20 (x18 + 1) (upd w19 x18.toNatClampNeg ((w8 ((ft x7.toNatClampNeg) &&& 15).toNatClampNeg) ||| (w8 (((ft x7.toNatClampNeg) >>> (4 &&& 31)) &&& 15).toNatClampNeg)))) else g74_20 (x18 + 1) w19)))) N 0 w8)))))))) N 0 w2 else gin x1 16 (g3_3 (x1 + 1) (upd w2 x1.toNatClampNeg ((1 : Int32) <<< (x1 &&& 31))))))) N 0 fm
abbrev rmL_lay : Room := { frames := 0, cells := 0, slots := 0, locals := 0 }
set_option maxHeartbeats 16000000 in
set_option maxRecDepth 200000 in
theorem kL_lay (l : Launch) (D : va_G) (cI cZ cL : ClassId) (sz0 : Nat) (h_t h_m h_g : Nat) (ft : Nat → Int32) (fm : Nat → Int32) (fg : Nat → Int32) (p3 : Int32) (N : Nat) {r_0 : Nat → Int32} (h : fL_lay N ft fm fg p3 = some r_0) : Met l yL_lay wsL_lay rmL_lay (PM D cI cZ cL [.ref h_t, .ref h_m, .ref h_g, .int p3] [(h_t, .inl (cI, 24, .inl ft)), (h_m, .inl (cI, 16, .inl fm)), (h_g, .inl (cI, 7, .inl fg))] sz0) (QM D none (va_A [(h_t, .inl (cI, 24, .inl ft)), (h_m, .inl (cI, 16, .inl fm)), (h_g, .inl (cI, 7, .inl fg))] sz0) [(h_t, .inl (cI, 24, .inl ft)), (h_m, .inl (cI, 16, .inl r_0)), (h_g, .inl (cI, 7, .inl fg))]) 0 0 (va_A [(h_t, .inl (cI, 24, .inl ft)), (h_m, .inl (cI, 16, .inl fm)), (h_g, .inl (cI, 7, .inl fg))] sz0) := by
  refine Met.ofW (cc := cL_lay) (maxL := 7) (ret := none) (by decide) rfl ?_
  intro p e s m args below meth c s₁ B hml hv
  obtain ⟨rfl, hsz, hP, hKK, hD0⟩ := hv
  have hK := hKK.1
  have hx := B.exec
  have hb := B.bytes
  have hr := B.returns
  have hts := atoms_spec (ws := wsL_lay) B.pre
  have hown : s.vm.findClass RL = some m.cls := findClass_of_methodNamed B.named
  have hlocks := B.notSynchronized
  subst hsz
  have hD := hD0.self (sz := s.heap.size)
  generalize hAe : va_A [(h_t, .inl (cI, 24, .inl ft)), (h_m, .inl (cI, 16, .inl fm)), (h_g, .inl (cI, 7, .inl fg))] s.heap.size = A at hD ⊢
  have hA : ∀ q : Nat, s.heap.size ≤ q → A q := fun q h => by rw [← hAe]; exact Or.inr h
  have hS : va_S A s.heap s.heap [] := va_S.rf
  have hl := lv_entry ([.ref h_t, .ref h_m, .ref h_g, .int p3]) (n := 7) (Nat.le_of_ble_eq_true rfl)
  rw [lg_entry_eq]
  generalize (lg_sl ([.ref h_t, .ref h_m, .ref h_g, .int p3]) ++ List.replicate (7 - (lg_sl ([.ref h_t, .ref h_m, .ref h_g, .int p3])).length) Slot.unset).toArray = ls at hl ⊢
  have hl : lv_has ls 7 [(0, .ref h_t), (1, .ref h_m), (2, .ref h_g), (3, .int p3)] := hl
  obtain ⟨QQ, hQQ⟩ : ∃ Z, Z = MQ below (QM D none A [(h_t, .inl (cI, 24, .inl ft)), (h_m, .inl (cI, 16, .inl r_0)), (h_g, .inl (cI, 7, .inl fg))]) ([.ref h_t, .ref h_m, .ref h_g, .int p3] : List Value).toArray s 0 0 A := ⟨_, rfl⟩
  rw [← hQQ]
  obtain ⟨H, locs, hHe, hLe⟩ : ∃ (H : Heap) (locs : List Loc), H = s.heap ∧ locs = [] := ⟨_, _, rfl, rfl⟩
  have hP : va_P D vwCl [(h_t, .inl (cI, 24, .inl ft)), (h_m, .inl (cI, 16, .inl fm)), (h_g, .inl (cI, 7, .inl fg))] H := by rw [hHe]; exact hP
  have hS : va_S A s.heap H locs := by rw [hHe, hLe]; exact hS
  have hW0 : ∀ QQ : State → Prop, W p l e (headSpec wsL_lay rmL_lay).room s m (([.ref h_t, .ref h_m, .ref h_g, .int p3] : List Value).toArray) below meth c H locs 0 0 QQ (F0 m 0 ls []) → W p l e (headSpec wsL_lay rmL_lay).room s m (([.ref h_t, .ref h_m, .ref h_g, .int p3] : List Value).toArray) below meth c s.heap [] 0 0 QQ (F0 m 0 ls []) := by rw [hHe, hLe]; exact fun _ h => h
  refine hW0 _ ?_
  clear hW0
  unfold fL_lay at h
  refine lv_iconst (v := 0) hx hb dL_lay_0 (by decide) ?_
  refine lv_istore (lv' := [(4, .int 0), (0, .ref h_t), (1, .ref h_m), (2, .ref h_g), (3, .int p3)]) hx hb dL_lay_1 hl (by decide) rfl (fun ls hl => ?_)
  refine it2_e (fun (x1 : Int32) (w2 : Nat → Int32) => ∀ (H : Heap) (locs : List Loc) (ls : Array Slot), va_P D vwCl [(h_t, .inl (cI, 24, .inl ft)), (h_m, .inl (cI, 16, .inl w2)), (h_g, .inl (cI, 7, .inl fg))] H → va_D A [(h_t, .inl (cI, 24, .inl ft)), (h_m, .inl (cI, 16, .inl w2)), (h_g, .inl (cI, 7, .inl fg))] → va_S A s.heap H locs → lv_has ls 7 [(4, .int x1), (0, .ref h_t), (1, .ref h_m), (2, .ref h_g), (3, .int p3)] → W p l e (headSpec wsL_lay rmL_lay).room s m (([.ref h_t, .ref h_m, .ref h_g, .int p3] : List Value).toArray) below meth c H locs (0) (0) QQ (F0 m 3 ls [])) (fun g3_3 hg3_4 x1 w2 h H locs ls hP hD hS hl => ?_) N 0 fm h H locs ls hP hD hS (lv_sub hl [0, 1, 2, 3, 4] rfl)
  refine lv_iload hx hb dL_lay_3 (lv_at hl 0 rfl) ?_
  refine lv_aload_n hx hb dL_lay_5 rfl (lv_at hl 3 rfl) ?_
  refine lv_iconst (v := 0) hx hb dL_lay_6 (by decide) ?_
  obtain ⟨hi5, h⟩ := gin_e h
  refine va_iald hx hb hK hP 2 0 rfl rfl hi5 dL_lay_7 ?_
  refine lv_icmp_ge (tgt := 25) hx hb dL_lay_8 (by decide) (fun c6 => ?_) (fun c6 => ?_)
  · have h := it_t h c6
    refine lv_iconst (v := 0) hx hb dL_lay_25 (by decide) ?_
    refine lv_istore (lv' := [(4, .int 0), (0, .ref h_t), (1, .ref h_m), (2, .ref h_g), (3, .int p3)]) hx hb dL_lay_26 hl (by decide) rfl (fun ls hl => ?_)
    refine it2_e (fun (x7 : Int32) (w8 : Nat → Int32) => ∀ (H : Heap) (locs : List Loc) (ls : Array Slot), va_P D vwCl [(h_t, .inl (cI, 24, .inl ft)), (h_m, .inl (cI, 16, .inl w8)), (h_g, .inl (cI, 7, .inl fg))] H → va_D A [(h_t, .inl (cI, 24, .inl ft)), (h_m, .inl (cI, 16, .inl w8)), (h_g, .inl (cI, 7, .inl fg))] → va_S A s.heap H locs → lv_has ls 7 [(4, .int x7), (0, .ref h_t), (1, .ref h_m), (2, .ref h_g), (3, .int p3)] → W p l e (headSpec wsL_lay rmL_lay).room s m (([.ref h_t, .ref h_m, .ref h_g, .int p3] : List Value).toArray) below meth c H locs (0) (0) QQ (F0 m 28 ls [])) (fun g28_9 hg28_10 x7 w8 h H locs ls hP hD hS hl => ?_) N 0 w2 h H locs ls hP hD hS (lv_sub hl [0, 1, 2, 3, 4] rfl)
    refine lv_iload hx hb dL_lay_28 (lv_at hl 0 rfl) ?_
    refine lv_aload_n hx hb dL_lay_30 rfl (lv_at hl 3 rfl) ?_
    refine lv_iconst (v := 1) hx hb dL_lay_31 (by decide) ?_
    obtain ⟨hi11, h⟩ := gin_e h
    refine va_iald hx hb hK hP 2 0 rfl rfl hi11 dL_lay_32 ?_
    refine lv_icmp_ge (tgt := 111) hx hb dL_lay_33 (by decide) (fun c12 => ?_) (fun c12 => ?_)
    · have h := it_t h c12
      cases h
      rw [hQQ]
      exact W.vret hx hb hr (fun t ht hW => ⟨rfl, by rw [ht]; exact hP, hD, hS.F ht⟩) hS.2.2 dL_lay_111
    · have h := it_f h c12
      refine lv_iload_n hx hb dL_lay_36 rfl (lv_at hl 4 rfl) ?_
      refine lv_iload hx hb dL_lay_37 (lv_at hl 0 rfl) ?_
      refine lv_ishr hx hb dL_lay_39 ?_
      refine lv_iconst (v := 1) hx hb dL_lay_40 (by decide) ?_
      refine lv_iand hx hb dL_lay_41 ?_
      refine lv_if_ne (tgt := 48) hx hb dL_lay_42 (by decide) (fun c13 => ?_) (fun c13 => ?_)
      · have h := it_f h c13
        refine lv_aload_n hx hb dL_lay_48 rfl (lv_at hl 2 rfl) ?_
        refine lv_aload_n hx hb dL_lay_49 rfl (lv_at hl 1 rfl) ?_
        refine lv_iload hx hb dL_lay_50 (lv_at hl 0 rfl) ?_
        obtain ⟨hi14, h⟩ := gin_e h
        refine va_iald hx hb hK hP 0 0 rfl rfl hi14 dL_lay_52 ?_
        refine lv_bipush (v := 15) hx hb dL_lay_53 (by decide) ?_
        refine lv_iand hx hb dL_lay_55 ?_
        obtain ⟨hi15, h⟩ := gin_e h
        refine va_iald hx hb hK hP 1 0 rfl rfl hi15 dL_lay_56 ?_
        refine lv_aload_n hx hb dL_lay_57 rfl (lv_at hl 2 rfl) ?_
        refine lv_aload_n hx hb dL_lay_58 rfl (lv_at hl 1 rfl) ?_
        refine lv_iload hx hb dL_lay_59 (lv_at hl 0 rfl) ?_
        obtain ⟨hi16, h⟩ := gin_e h
        refine va_iald hx hb hK hP 0 0 rfl rfl hi16 dL_lay_61 ?_
        refine lv_iconst (v := 4) hx hb dL_lay_62 (by decide) ?_
        refine lv_ishr hx hb dL_lay_63 ?_
        refine lv_bipush (v := 15) hx hb dL_lay_64 (by decide) ?_
        refine lv_iand hx hb dL_lay_66 ?_
        obtain ⟨hi17, h⟩ := gin_e h
        refine va_iald hx hb hK hP 1 0 rfl rfl hi17 dL_lay_67 ?_
        refine lv_ior hx hb dL_lay_68 ?_
        refine lv_istore (lv' := [(5, .int ((w8 ((ft x7.toNatClampNeg) &&& 15).toNatClampNeg) ||| (w8 (((ft x7.toNatClampNeg) >>> (4 &&& 31)) &&& 15).toNatClampNeg))), (4, .int x7), (0, .ref h_t), (1, .ref h_m), (2, .ref h_g), (3, .int p3)]) hx hb dL_lay_69 hl (by decide) rfl (fun ls hl => ?_)
        refine lv_iconst (v := 0) hx hb dL_lay_71 (by decide) ?_
        refine lv_istore (lv' := [(6, .int 0), (5, .int ((w8 ((ft x7.toNatClampNeg) &&& 15).toNatClampNeg) ||| (w8 (((ft x7.toNatClampNeg) >>> (4 &&& 31)) &&& 15).toNatClampNeg))), (4, .int x7), (0, .ref h_t), (1, .ref h_m), (2, .ref h_g), (3, .int p3)]) hx hb dL_lay_72 hl (by decide) rfl (fun ls hl => ?_)
        refine it2_e (fun (x18 : Int32) (w19 : Nat → Int32) => ∀ (H : Heap) (locs : List Loc) (ls : Array Slot), va_P D vwCl [(h_t, .inl (cI, 24, .inl ft)), (h_m, .inl (cI, 16, .inl w19)), (h_g, .inl (cI, 7, .inl fg))] H → va_D A [(h_t, .inl (cI, 24, .inl ft)), (h_m, .inl (cI, 16, .inl w19)), (h_g, .inl (cI, 7, .inl fg))] → va_S A s.heap H locs → lv_has ls 7 [(6, .int x18), (5, .int ((w8 ((ft x7.toNatClampNeg) &&& 15).toNatClampNeg) ||| (w8 (((ft x7.toNatClampNeg) >>> (4 &&& 31)) &&& 15).toNatClampNeg))), (4, .int x7), (0, .ref h_t), (1, .ref h_m), (2, .ref h_g), (3, .int p3)] → W p l e (headSpec wsL_lay rmL_lay).room s m (([.ref h_t, .ref h_m, .ref h_g, .int p3] : List Value).toArray) below meth c H locs (0) (0) QQ (F0 m 74 ls [])) (fun g74_20 hg74_21 x18 w19 h H locs ls hP hD hS hl => ?_) N 0 w8 h H locs ls hP hD hS (lv_sub hl [0, 1, 2, 3, 4, 5, 6] rfl)
        refine lv_iload hx hb dL_lay_74 (lv_at hl 0 rfl) ?_
        refine lv_aload_n hx hb dL_lay_76 rfl (lv_at hl 5 rfl) ?_
        refine lv_iconst (v := 0) hx hb dL_lay_77 (by decide) ?_
        obtain ⟨hi22, h⟩ := gin_e h
        refine va_iald hx hb hK hP 2 0 rfl rfl hi22 dL_lay_78 ?_
        refine lv_icmp_ge (tgt := 105) hx hb dL_lay_79 (by decide) (fun c23 => ?_) (fun c23 => ?_)
        · have h := it_t h c23
          refine lv_iinc (v := x7 + 1) (lv' := [(4, .int (x7 + 1)), (6, .int x18), (5, .int ((w8 ((ft x7.toNatClampNeg) &&& 15).toNatClampNeg) ||| (w8 (((ft x7.toNatClampNeg) >>> (4 &&& 31)) &&& 15).toNatClampNeg))), (0, .ref h_t), (1, .ref h_m), (2, .ref h_g), (3, .int p3)]) hx hb dL_lay_105 hl (k := 2) rfl rfl (by decide) rfl (fun ls hl => ?_)
          refine lv_goto (tgt := 28) hx hb dL_lay_108 (by decide) ?_
          exact hg28_10 (x7 + 1) w19 h H locs ls hP hD hS (lv_sub hl [0, 3, 4, 5, 6] rfl)
        · have h := it_f h c23
          refine lv_iload hx hb dL_lay_82 (lv_at hl 1 rfl) ?_
          refine lv_iload hx hb dL_lay_84 (lv_at hl 0 rfl) ?_
          refine lv_ishr hx hb dL_lay_86 ?_
          refine lv_iconst (v := 1) hx hb dL_lay_87 (by decide) ?_
          refine lv_iand hx hb dL_lay_88 ?_
          refine lv_iconst (v := 1) hx hb dL_lay_89 (by decide) ?_
          refine lv_icmp_ne (tgt := 99) hx hb dL_lay_90 (by decide) (fun c24 => ?_) (fun c24 => ?_)
          · have h := it_f h c24
            refine lv_iinc (v := x18 + 1) (lv' := [(6, .int (x18 + 1)), (5, .int ((w8 ((ft x7.toNatClampNeg) &&& 15).toNatClampNeg) ||| (w8 (((ft x7.toNatClampNeg) >>> (4 &&& 31)) &&& 15).toNatClampNeg))), (4, .int x7), (0, .ref h_t), (1, .ref h_m), (2, .ref h_g), (3, .int p3)]) hx hb dL_lay_99 hl (k := 0) rfl rfl (by decide) rfl (fun ls hl => ?_)
            refine lv_goto (tgt := 74) hx hb dL_lay_102 (by decide) ?_
            exact hg74_21 (x18 + 1) w19 h H locs ls hP hD hS (lv_sub hl [0, 1, 2, 3, 4, 5, 6] rfl)
          · have h := it_t h c24
            refine lv_aload_n hx hb dL_lay_93 rfl (lv_at hl 4 rfl) ?_
            refine lv_iload hx hb dL_lay_94 (lv_at hl 0 rfl) ?_
            refine lv_iload hx hb dL_lay_96 (lv_at hl 1 rfl) ?_
            obtain ⟨hi25, h⟩ := gin_e h
            refine va_iast hx hb hK hP hD hS 1 0 rfl rfl hi25 dL_lay_98 (fun H locs hP hD hS => ?_)
            have hP : va_P D vwCl [(h_t, .inl (cI, 24, .inl ft)), (h_m, .inl (cI, 16, .inl (upd w19 x18.toNatClampNeg ((w8 ((ft x7.toNatClampNeg) &&& 15).toNatClampNeg) ||| (w8 (((ft x7.toNatClampNeg) >>> (4 &&& 31)) &&& 15).toNatClampNeg))))), (h_g, .inl (cI, 7, .inl fg))] H := hP
            have hD : va_D A [(h_t, .inl (cI, 24, .inl ft)), (h_m, .inl (cI, 16, .inl (upd w19 x18.toNatClampNeg ((w8 ((ft x7.toNatClampNeg) &&& 15).toNatClampNeg) ||| (w8 (((ft x7.toNatClampNeg) >>> (4 &&& 31)) &&& 15).toNatClampNeg))))), (h_g, .inl (cI, 7, .inl fg))] := hD
            refine lv_iinc (v := x18 + 1) (lv' := [(6, .int (x18 + 1)), (5, .int ((w8 ((ft x7.toNatClampNeg) &&& 15).toNatClampNeg) ||| (w8 (((ft x7.toNatClampNeg) >>> (4 &&& 31)) &&& 15).toNatClampNeg))), (4, .int x7), (0, .ref h_t), (1, .ref h_m), (2, .ref h_g), (3, .int p3)]) hx hb dL_lay_99 hl (k := 0) rfl rfl (by decide) rfl (fun ls hl => ?_)
            refine lv_goto (tgt := 74) hx hb dL_lay_102 (by decide) ?_
            exact hg74_21 (x18 + 1) (upd w19 x18.toNatClampNeg ((w8 ((ft x7.toNatClampNeg) &&& 15).toNatClampNeg) ||| (w8 (((ft x7.toNatClampNeg) >>> (4 &&& 31)) &&& 15).toNatClampNeg))) h H locs ls hP hD hS (lv_sub hl [0, 1, 2, 3, 4, 5, 6] rfl)
      · have h := it_t h c13
        refine lv_goto (tgt := 105) hx hb dL_lay_45 (by decide) ?_
        refine lv_iinc (v := x7 + 1) (lv' := [(4, .int (x7 + 1)), (0, .ref h_t), (1, .ref h_m), (2, .ref h_g), (3, .int p3)]) hx hb dL_lay_105 hl (k := 0) rfl rfl (by decide) rfl (fun ls hl => ?_)
        refine lv_goto (tgt := 28) hx hb dL_lay_108 (by decide) ?_
        exact hg28_10 (x7 + 1) w8 h H locs ls hP hD hS (lv_sub hl [0, 1, 2, 3, 4] rfl)
  · have h := it_f h c6
    refine lv_aload_n hx hb dL_lay_11 rfl (lv_at hl 2 rfl) ?_
    refine lv_iload hx hb dL_lay_12 (lv_at hl 0 rfl) ?_
    refine lv_iconst (v := 1) hx hb dL_lay_14 (by decide) ?_
    refine lv_iload hx hb dL_lay_15 (lv_at hl 0 rfl) ?_
    refine lv_ishl hx hb dL_lay_17 ?_
    obtain ⟨hi26, h⟩ := gin_e h
    refine va_iast hx hb hK hP hD hS 1 0 rfl rfl hi26 dL_lay_18 (fun H locs hP hD hS => ?_)
    have hP : va_P D vwCl [(h_t, .inl (cI, 24, .inl ft)), (h_m, .inl (cI, 16, .inl (upd w2 x1.toNatClampNeg ((1 : Int32) <<< (x1 &&& 31))))), (h_g, .inl (cI, 7, .inl fg))] H := hP
    have hD : va_D A [(h_t, .inl (cI, 24, .inl ft)), (h_m, .inl (cI, 16, .inl (upd w2 x1.toNatClampNeg ((1 : Int32) <<< (x1 &&& 31))))), (h_g, .inl (cI, 7, .inl fg))] := hD
    refine lv_iinc (v := x1 + 1) (lv' := [(4, .int (x1 + 1)), (0, .ref h_t), (1, .ref h_m), (2, .ref h_g), (3, .int p3)]) hx hb dL_lay_19 hl (k := 0) rfl rfl (by decide) rfl (fun ls hl => ?_)
    refine lv_goto (tgt := 3) hx hb dL_lay_22 (by decide) ?_
    exact hg3_4 (x1 + 1) (upd w2 x1.toNatClampNeg ((1 : Int32) <<< (x1 &&& 31))) h H locs ls hP hD hS (lv_sub hl [0, 1, 2, 3, 4] rfl)

def fL_why (N : Nat) (ft : Nat → Int32) (fm : Nat → Int32) (fh : Nat → Int32) (fg : Nat → Int32) (fd : Nat → Int32) (p5 : Int32) : Option ((Int32) × (Nat → Int32) × (Nat → Int32)) :=
  gin ((p5 / 100) / 2) 3 (jn1 (fun (y2 : Int32) => jn1 (fun (y5 : Int32) => (if y2 = y5 then some (1, fm, fd) else jn0 (jn1 (fun (y11 : Int32) => jn1 (fun (y14 : Int32) => bd1 (fL_held N fh fg) (fun v17 => (if ((((1 : Int32) <<< (y11 &&& 31)) ||| ((1 : Int32) <<< (y14 &&& 31))) &&& v17) = 0 then gin 0 3 (bd1 (fL_lay N ft fm fg (fd (0 : Int32).toNatClampNeg)) (fun w22 => gin 2 3 (bd1 (fL_with N w22 fg (fd (2 : Int32).toNatClampNeg)) (fun v24 => gin 1 3 (bd1 (fL_with N w22 fg (fd (1 : Int32).toNatClampNeg)) (fun v27 => gin 3 7 (bd1 (fL_with N w22 fg (fg (3 : Int32).toNatClampNeg)) (fun v30 => jn0 (jn0 (jn0 (jn1 (fun (y38 : Int32) => jn2 (fun (w41 : Nat → Int32) (w42 : Nat → Int32) => jn2 (fun (w45 : Nat → Int32) (w46 : Nat → Int32) => gin ((p5 / 100) / 2) 3 (gin ((p5 / 100) / 2) 3 (gin 0 3 (bd1 (fL_lay N ft w45 fg ((upd w46 ((p5 / 100) / 2).toNatClampNeg ((w46 ((p5 / 100) / 2).toNatClampNeg) ^^^ ((1 : Int32) <<< ((p5 - p5 / 100 * 100) &&& 31)))) (0 : Int32).toNatClampNeg)) (fun w53 => gin 1 3 (bd1 (fL_with N w53 fg ((upd w46 ((p5 / 100) / 2).toNatClampNeg ((w46 ((p5 / 100) / 2).toNatClampNeg) ^^^ ((1 : Int32) <<< ((p5 - p5 / 100 * 100) &&& 31)))) (1 : Int32).toNatClampNeg)) (fun v55 => jn1 (fun (y57 : Int32) => gin ((p5 / 100) / 2) 3 ((if y57 = 0 then some (4, w53, upd (upd w46 ((p5 / 100) / 2).toNatClampNeg ((w46 ((p5 / 100) / 2).toNatClampNeg) ^^^ ((1 : Int32) <<< ((p5 - p5 / 100 * 100) &&& 31)))) ((p5 / 100) / 2).toNatClampNeg (w46 ((p5 / 100) / 2).toNatClampNeg)) else some (0, w53, upd (upd w46 ((p5 / 100) / 2).toNatClampNeg ((w46 ((p5 / 100) / 2).toNatClampNeg) ^^^ ((1 : Int32) <<< ((p5 - p5 / 100 * 100) &&& 31)))) ((p5 / 100) / 2).toNatClampNeg (w46 ((p5 / 100) / 2).toNatClampNeg))))) (fun g461_58 => (if (v17 &&& (v55 ^^^ (-1))) = 0 then gin 2 3 (bd1 (fL_with N w53 fg ((upd w46 ((p5 / 100) / 2).toNatClampNeg ((w46 ((p5 / 100) / 2).toNatClampNeg) ^^^ ((1 : Int32) <<< ((p5 - p5 / 100 * 100) &&& 31)))) (2 : Int32).toNatClampNeg)) (fun v64 => (if (v17 &&& v64) = 0 then g461_58 1 else g461_58 0))) else g461_58 0))))))))) (fun g391_47 => (if y38 = 0 then g391_47 w41 w42 else (if (p5 / 100) = 1 then gin y11 16 ((if (((w41 y11.toNatClampNeg) >>> (y14 &&& 31)) &&& 1) = 0 then gin 0 3 (bd1 (fL_lay N ft w41 fg ((w42 (0 : Int32).toNatClampNeg) ||| ((1 : Int32) <<< ((p5 - p5 / 100 * 100) &&& 31)))) (fun w73 => gin 2 3 (bd1 (fL_with N w73 fg (w42 (2 : Int32).toNatClampNeg)) (fun v75 => gin 3 7 (bd1 (fL_with N w73 fg (fg (3 : Int32).toNatClampNeg)) (fun v78 => (if ((v75 &&& v78) &&& (((1 : Int32) <<< (y11 &&& 31)) ||| ((1 : Int32) <<< (y14 &&& 31)))) = 0 then g391_47 w73 w42 else some (3, w73, w42)))))))) else g391_47 w41 w42)) else g391_47 w41 w42)))) (fun g327_43 => (if y38 = 0 then g327_43 w22 fd else (if (p5 / 100) = 0 then (if ((v24 &&& v30) &&& (((1 : Int32) <<< (y11 &&& 31)) ||| ((1 : Int32) <<< (y14 &&& 31)))) = 0 then g327_43 w22 fd else gin 0 3 (bd1 (fL_lay N ft w22 fg ((fd (0 : Int32).toNatClampNeg) ^^^ ((1 : Int32) <<< ((p5 - p5 / 100 * 100) &&& 31)))) (fun w86 => gin y11 16 ((if (((w86 y11.toNatClampNeg) >>> (y14 &&& 31)) &&& 1) = 0 then some (3, w86, fd) else g327_43 w86 fd))))) else g327_43 w22 fd)))) (fun g278_39 => (if 2 ≤ (p5 / 100) then g278_39 0 else gin (p5 - p5 / 100 * 100) 24 ((if 256 ≤ (ft (p5 - p5 / 100 * 100).toNatClampNeg) then g278_39 0 else g278_39 1))))) (fun g257_36 => (if (p5 / 100) = 4 then (if (v27 &&& (((1 : Int32) <<< (y11 &&& 31)) ||| ((1 : Int32) <<< (y14 &&& 31)))) = 0 then g257_36 else some (3, w22, fd)) else g257_36))) (fun g241_34 => (if (p5 / 100) = 2 then (if (v24 &&& (((1 : Int32) <<< (y11 &&& 31)) ||| ((1 : Int32) <<< (y14 &&& 31)))) = 0 then g241_34 else some (3, w22, fd)) else g241_34))) (fun g227_32 => (if (p5 / 100) = 1 then (if (v24 &&& (((1 : Int32) <<< (y11 &&& 31)) ||| ((1 : Int32) <<< (y14 &&& 31)))) = 0 then g227_32 else (if (v27 &&& (((1 : Int32) <<< (y11 &&& 31)) ||| ((1 : Int32) <<< (y14 &&& 31)))) = 0 then g227_32 else some (3, w22, fd))) else g227_32)))))))))) else some (2, fm, fd)))) (fun g128_15 => (if 2 ≤ (p5 / 100) then g128_15 (p5 - p5 / 100 * 100) else gin (p5 - p5 / 100 * 100) 24 (g128_15 (((ft (p5 - p5 / 100 * 100).toNatClampNeg) >>> (4 &&& 31)) &&& 15))))) (fun g106_12 => (if 2 ≤ (p5 / 100) then g106_12 (p5 - p5 / 100 * 100) else gin (p5 - p5 / 100 * 100) 24 (g106_12 ((ft (p5 - p5 / 100 * 100).toNatClampNeg) &&& 15))))) (fun g88_9 => (if (p5 / 100) ≤ 3 then g88_9 else gin 2 7 ((if (((fg (2 : Int32).toNatClampNeg) >>> ((p5 - p5 / 100 * 100) &&& 31)) &&& 1) = 0 then some (1, fm, fd) else g88_9)))))) (fun g60_6 => (if (p5 / 100) = 1 then g60_6 1 else (if (p5 / 100) = 2 then g60_6 1 else (if (p5 / 100) = 4 then g60_6 1 else g60_6 0))))) (fun g35_3 => (if (((fd ((p5 / 100) / 2).toNatClampNeg) >>> ((p5 - p5 / 100 * 100) &&& 31)) &&& 1) = 1 then g35_3 1 else g35_3 0)))
abbrev rmL_why : Room := { frames := 1, cells := 0, slots := 0, locals := 26 }
set_option maxHeartbeats 16000000 in
set_option maxRecDepth 200000 in
theorem kL_why (l : Launch) (D : va_G) (cI cZ cL : ClassId) (sz0 : Nat) (h_t h_m h_h h_g h_d : Nat) (ft : Nat → Int32) (fm : Nat → Int32) (fh : Nat → Int32) (fg : Nat → Int32) (fd : Nat → Int32) (p5 : Int32) (N : Nat) {r : Int32} {r_0 : Nat → Int32} {r_1 : Nat → Int32} (h : fL_why N ft fm fh fg fd p5 = some (r, r_0, r_1)) : Met l yL_why wsL_why rmL_why (PM D cI cZ cL [.ref h_t, .ref h_m, .ref h_h, .ref h_g, .ref h_d, .int p5] [(h_t, .inl (cI, 24, .inl ft)), (h_m, .inl (cI, 16, .inl fm)), (h_h, .inl (cI, 10, .inl fh)), (h_g, .inl (cI, 7, .inl fg)), (h_d, .inl (cI, 3, .inl fd))] sz0) (QM D (some (.int r)) (va_A [(h_t, .inl (cI, 24, .inl ft)), (h_m, .inl (cI, 16, .inl fm)), (h_h, .inl (cI, 10, .inl fh)), (h_g, .inl (cI, 7, .inl fg)), (h_d, .inl (cI, 3, .inl fd))] sz0) [(h_t, .inl (cI, 24, .inl ft)), (h_m, .inl (cI, 16, .inl r_0)), (h_h, .inl (cI, 10, .inl fh)), (h_g, .inl (cI, 7, .inl fg)), (h_d, .inl (cI, 3, .inl r_1))]) 0 0 (va_A [(h_t, .inl (cI, 24, .inl ft)), (h_m, .inl (cI, 16, .inl fm)), (h_h, .inl (cI, 10, .inl fh)), (h_g, .inl (cI, 7, .inl fg)), (h_d, .inl (cI, 3, .inl fd))] sz0) := by
  refine Met.ofW (cc := cL_why) (maxL := 20) (ret := (some .int)) (by decide) rfl ?_
  intro p e s m args below meth c s₁ B hml hv
  obtain ⟨rfl, hsz, hP, hKK, hD0⟩ := hv
  have hK := hKK.1
  have hx := B.exec
  have hb := B.bytes
  have hr := B.returns
  have hts := atoms_spec (ws := wsL_why) B.pre
  have hown : s.vm.findClass RL = some m.cls := findClass_of_methodNamed B.named
  have hlocks := B.notSynchronized
  subst hsz
  have hD := hD0.self (sz := s.heap.size)
  generalize hAe : va_A [(h_t, .inl (cI, 24, .inl ft)), (h_m, .inl (cI, 16, .inl fm)), (h_h, .inl (cI, 10, .inl fh)), (h_g, .inl (cI, 7, .inl fg)), (h_d, .inl (cI, 3, .inl fd))] s.heap.size = A at hD ⊢
  have hA : ∀ q : Nat, s.heap.size ≤ q → A q := fun q h => by rw [← hAe]; exact Or.inr h
  have hS : va_S A s.heap s.heap [] := va_S.rf
  have hl := lv_entry ([.ref h_t, .ref h_m, .ref h_h, .ref h_g, .ref h_d, .int p5]) (n := 20) (Nat.le_of_ble_eq_true rfl)
  rw [lg_entry_eq]
  generalize (lg_sl ([.ref h_t, .ref h_m, .ref h_h, .ref h_g, .ref h_d, .int p5]) ++ List.replicate (20 - (lg_sl ([.ref h_t, .ref h_m, .ref h_h, .ref h_g, .ref h_d, .int p5])).length) Slot.unset).toArray = ls at hl ⊢
  have hl : lv_has ls 20 [(0, .ref h_t), (1, .ref h_m), (2, .ref h_h), (3, .ref h_g), (4, .ref h_d), (5, .int p5)] := hl
  obtain ⟨QQ, hQQ⟩ : ∃ Z, Z = MQ below (QM D (some (.int r)) A [(h_t, .inl (cI, 24, .inl ft)), (h_m, .inl (cI, 16, .inl r_0)), (h_h, .inl (cI, 10, .inl fh)), (h_g, .inl (cI, 7, .inl fg)), (h_d, .inl (cI, 3, .inl r_1))]) ([.ref h_t, .ref h_m, .ref h_h, .ref h_g, .ref h_d, .int p5] : List Value).toArray s 0 0 A := ⟨_, rfl⟩
  rw [← hQQ]
  obtain ⟨H, locs, hHe, hLe⟩ : ∃ (H : Heap) (locs : List Loc), H = s.heap ∧ locs = [] := ⟨_, _, rfl, rfl⟩
  have hP : va_P D vwCl [(h_t, .inl (cI, 24, .inl ft)), (h_m, .inl (cI, 16, .inl fm)), (h_h, .inl (cI, 10, .inl fh)), (h_g, .inl (cI, 7, .inl fg)), (h_d, .inl (cI, 3, .inl fd))] H := by rw [hHe]; exact hP
  have hS : va_S A s.heap H locs := by rw [hHe, hLe]; exact hS
  have hW0 : ∀ QQ : State → Prop, W p l e (headSpec wsL_why rmL_why).room s m (([.ref h_t, .ref h_m, .ref h_h, .ref h_g, .ref h_d, .int p5] : List Value).toArray) below meth c H locs 0 0 QQ (F0 m 0 ls []) → W p l e (headSpec wsL_why rmL_why).room s m (([.ref h_t, .ref h_m, .ref h_h, .ref h_g, .ref h_d, .int p5] : List Value).toArray) below meth c s.heap [] 0 0 QQ (F0 m 0 ls []) := by rw [hHe, hLe]; exact fun _ h => h
  refine hW0 _ ?_
  clear hW0
  unfold fL_why at h
  refine lv_iload hx hb dL_why_0 (lv_at hl 5 rfl) ?_
  refine lv_bipush (v := 100) hx hb dL_why_2 (by decide) ?_
  refine lv_idiv hx hb dL_why_4 (by decide) ?_
  refine lv_istore (lv' := [(6, .int (p5 / 100)), (0, .ref h_t), (1, .ref h_m), (2, .ref h_h), (3, .ref h_g), (4, .ref h_d), (5, .int p5)]) hx hb dL_why_5 hl (by decide) rfl (fun ls hl => ?_)
  refine lv_iload hx hb dL_why_7 (lv_at hl 6 rfl) ?_
  refine lv_bipush (v := 100) hx hb dL_why_9 (by decide) ?_
  refine lv_irem hx hb dL_why_11 (by decide) ?_
  refine lv_istore (lv' := [(7, .int (p5 - p5 / 100 * 100)), (6, .int (p5 / 100)), (0, .ref h_t), (1, .ref h_m), (2, .ref h_h), (3, .ref h_g), (4, .ref h_d), (5, .int p5)]) hx hb dL_why_12 hl (by decide) rfl (fun ls hl => ?_)
  refine lv_aload hx hb dL_why_14 (lv_at hl 6 rfl) ?_
  refine lv_iload hx hb dL_why_16 (lv_at hl 1 rfl) ?_
  refine lv_iconst (v := 2) hx hb dL_why_18 (by decide) ?_
  refine lv_idiv hx hb dL_why_19 (by decide) ?_
  obtain ⟨hi1, h⟩ := gin_e h
  refine va_iald hx hb hK hP 4 0 rfl rfl hi1 dL_why_20 ?_
  refine lv_iload hx hb dL_why_21 (lv_at hl 0 rfl) ?_
  refine lv_ishr hx hb dL_why_23 ?_
  refine lv_iconst (v := 1) hx hb dL_why_24 (by decide) ?_
  refine lv_iand hx hb dL_why_25 ?_
  refine lv_iconst (v := 1) hx hb dL_why_26 (by decide) ?_
  refine jn1_e (fun (y2 : Int32) => ∀ (H : Heap) (locs : List Loc) (ls : Array Slot), va_P D vwCl [(h_t, .inl (cI, 24, .inl ft)), (h_m, .inl (cI, 16, .inl fm)), (h_h, .inl (cI, 10, .inl fh)), (h_g, .inl (cI, 7, .inl fg)), (h_d, .inl (cI, 3, .inl fd))] H → va_D A [(h_t, .inl (cI, 24, .inl ft)), (h_m, .inl (cI, 16, .inl fm)), (h_h, .inl (cI, 10, .inl fh)), (h_g, .inl (cI, 7, .inl fg)), (h_d, .inl (cI, 3, .inl fd))] → va_S A s.heap H locs → lv_has ls 20 [(7, .int (p5 - p5 / 100 * 100)), (6, .int (p5 / 100)), (0, .ref h_t), (1, .ref h_m), (2, .ref h_h), (3, .ref h_g), (4, .ref h_d), (5, .int p5)] → W p l e (headSpec wsL_why rmL_why).room s m (([.ref h_t, .ref h_m, .ref h_h, .ref h_g, .ref h_d, .int p5] : List Value).toArray) below meth c H locs (0) (0) QQ (F0 m 35 ls [.int y2])) h (fun y2 h H locs ls hP hD hS hl => ?_) (fun g35_3 hg35_4 h => ?_)
  · refine lv_istore (lv' := [(8, .int y2), (7, .int (p5 - p5 / 100 * 100)), (6, .int (p5 / 100)), (0, .ref h_t), (1, .ref h_m), (2, .ref h_h), (3, .ref h_g), (4, .ref h_d), (5, .int p5)]) hx hb dL_why_35 hl (by decide) rfl (fun ls hl => ?_)
    refine lv_iload hx hb dL_why_37 (lv_at hl 2 rfl) ?_
    refine lv_iconst (v := 1) hx hb dL_why_39 (by decide) ?_
    refine jn1_e (fun (y5 : Int32) => ∀ (H : Heap) (locs : List Loc) (ls : Array Slot), va_P D vwCl [(h_t, .inl (cI, 24, .inl ft)), (h_m, .inl (cI, 16, .inl fm)), (h_h, .inl (cI, 10, .inl fh)), (h_g, .inl (cI, 7, .inl fg)), (h_d, .inl (cI, 3, .inl fd))] H → va_D A [(h_t, .inl (cI, 24, .inl ft)), (h_m, .inl (cI, 16, .inl fm)), (h_h, .inl (cI, 10, .inl fh)), (h_g, .inl (cI, 7, .inl fg)), (h_d, .inl (cI, 3, .inl fd))] → va_S A s.heap H locs → lv_has ls 20 [(8, .int y2), (7, .int (p5 - p5 / 100 * 100)), (6, .int (p5 / 100)), (0, .ref h_t), (1, .ref h_m), (2, .ref h_h), (3, .ref h_g), (4, .ref h_d), (5, .int p5)] → W p l e (headSpec wsL_why rmL_why).room s m (([.ref h_t, .ref h_m, .ref h_h, .ref h_g, .ref h_d, .int p5] : List Value).toArray) below meth c H locs (0) (0) QQ (F0 m 60 ls [.int y5])) h (fun y5 h H locs ls hP hD hS hl => ?_) (fun g60_6 hg60_7 h => ?_)
    · refine lv_istore (lv' := [(9, .int y5), (8, .int y2), (7, .int (p5 - p5 / 100 * 100)), (6, .int (p5 / 100)), (0, .ref h_t), (1, .ref h_m), (2, .ref h_h), (3, .ref h_g), (4, .ref h_d), (5, .int p5)]) hx hb dL_why_60 hl (by decide) rfl (fun ls hl => ?_)
      refine lv_iload hx hb dL_why_62 (lv_at hl 1 rfl) ?_
      refine lv_iload hx hb dL_why_64 (lv_at hl 0 rfl) ?_
      refine lv_icmp_eq (tgt := 86) hx hb dL_why_66 (by decide) (fun c8 => ?_) (fun c8 => ?_)
      · have h := it_t h c8
        refine lv_iconst (v := 1) hx hb dL_why_86 (by decide) ?_
        cases h
        rw [hQQ]
        exact W.iret hx hb hr (fun t ht hW => ⟨rfl, by rw [ht]; exact hP, hD, hS.F ht⟩) hS.2.2 dL_why_87
      · have h := it_f h c8
        refine lv_iload hx hb dL_why_69 (lv_at hl 3 rfl) ?_
        refine lv_iconst (v := 3) hx hb dL_why_71 (by decide) ?_
        refine jn0_e (∀ (H : Heap) (locs : List Loc) (ls : Array Slot), va_P D vwCl [(h_t, .inl (cI, 24, .inl ft)), (h_m, .inl (cI, 16, .inl fm)), (h_h, .inl (cI, 10, .inl fh)), (h_g, .inl (cI, 7, .inl fg)), (h_d, .inl (cI, 3, .inl fd))] H → va_D A [(h_t, .inl (cI, 24, .inl ft)), (h_m, .inl (cI, 16, .inl fm)), (h_h, .inl (cI, 10, .inl fh)), (h_g, .inl (cI, 7, .inl fg)), (h_d, .inl (cI, 3, .inl fd))] → va_S A s.heap H locs → lv_has ls 20 [(9, .int y5), (8, .int y2), (7, .int (p5 - p5 / 100 * 100)), (6, .int (p5 / 100)), (0, .ref h_t), (1, .ref h_m), (2, .ref h_h), (3, .ref h_g), (4, .ref h_d), (5, .int p5)] → W p l e (headSpec wsL_why rmL_why).room s m (([.ref h_t, .ref h_m, .ref h_h, .ref h_g, .ref h_d, .int p5] : List Value).toArray) below meth c H locs (0) (0) QQ (F0 m 88 ls [])) h (fun h H locs ls hP hD hS hl => ?_) (fun g88_9 hg88_10 h => ?_)
        · refine lv_iload hx hb dL_why_88 (lv_at hl 3 rfl) ?_
          refine lv_iconst (v := 2) hx hb dL_why_90 (by decide) ?_
          refine jn1_e (fun (y11 : Int32) => ∀ (H : Heap) (locs : List Loc) (ls : Array Slot), va_P D vwCl [(h_t, .inl (cI, 24, .inl ft)), (h_m, .inl (cI, 16, .inl fm)), (h_h, .inl (cI, 10, .inl fh)), (h_g, .inl (cI, 7, .inl fg)), (h_d, .inl (cI, 3, .inl fd))] H → va_D A [(h_t, .inl (cI, 24, .inl ft)), (h_m, .inl (cI, 16, .inl fm)), (h_h, .inl (cI, 10, .inl fh)), (h_g, .inl (cI, 7, .inl fg)), (h_d, .inl (cI, 3, .inl fd))] → va_S A s.heap H locs → lv_has ls 20 [(9, .int y5), (8, .int y2), (7, .int (p5 - p5 / 100 * 100)), (6, .int (p5 / 100)), (0, .ref h_t), (1, .ref h_m), (2, .ref h_h), (3, .ref h_g), (4, .ref h_d), (5, .int p5)] → W p l e (headSpec wsL_why rmL_why).room s m (([.ref h_t, .ref h_m, .ref h_h, .ref h_g, .ref h_d, .int p5] : List Value).toArray) below meth c H locs (0) (0) QQ (F0 m 106 ls [.int y11])) h (fun y11 h H locs ls hP hD hS hl => ?_) (fun g106_12 hg106_13 h => ?_)
          · refine lv_istore (lv' := [(10, .int y11), (9, .int y5), (8, .int y2), (7, .int (p5 - p5 / 100 * 100)), (6, .int (p5 / 100)), (0, .ref h_t), (1, .ref h_m), (2, .ref h_h), (3, .ref h_g), (4, .ref h_d), (5, .int p5)]) hx hb dL_why_106 hl (by decide) rfl (fun ls hl => ?_)
            refine lv_iload hx hb dL_why_108 (lv_at hl 4 rfl) ?_
            refine lv_iconst (v := 2) hx hb dL_why_110 (by decide) ?_
            refine jn1_e (fun (y14 : Int32) => ∀ (H : Heap) (locs : List Loc) (ls : Array Slot), va_P D vwCl [(h_t, .inl (cI, 24, .inl ft)), (h_m, .inl (cI, 16, .inl fm)), (h_h, .inl (cI, 10, .inl fh)), (h_g, .inl (cI, 7, .inl fg)), (h_d, .inl (cI, 3, .inl fd))] H → va_D A [(h_t, .inl (cI, 24, .inl ft)), (h_m, .inl (cI, 16, .inl fm)), (h_h, .inl (cI, 10, .inl fh)), (h_g, .inl (cI, 7, .inl fg)), (h_d, .inl (cI, 3, .inl fd))] → va_S A s.heap H locs → lv_has ls 20 [(10, .int y11), (9, .int y5), (8, .int y2), (7, .int (p5 - p5 / 100 * 100)), (6, .int (p5 / 100)), (0, .ref h_t), (1, .ref h_m), (2, .ref h_h), (3, .ref h_g), (4, .ref h_d), (5, .int p5)] → W p l e (headSpec wsL_why rmL_why).room s m (([.ref h_t, .ref h_m, .ref h_h, .ref h_g, .ref h_d, .int p5] : List Value).toArray) below meth c H locs (0) (0) QQ (F0 m 128 ls [.int y14])) h (fun y14 h H locs ls hP hD hS hl => ?_) (fun g128_15 hg128_16 h => ?_)
            · refine lv_istore (lv' := [(11, .int y14), (10, .int y11), (9, .int y5), (8, .int y2), (7, .int (p5 - p5 / 100 * 100)), (6, .int (p5 / 100)), (0, .ref h_t), (1, .ref h_m), (2, .ref h_h), (3, .ref h_g), (4, .ref h_d), (5, .int p5)]) hx hb dL_why_128 hl (by decide) rfl (fun ls hl => ?_)
              refine lv_iconst (v := 1) hx hb dL_why_130 (by decide) ?_
              refine lv_iload hx hb dL_why_131 (lv_at hl 1 rfl) ?_
              refine lv_ishl hx hb dL_why_133 ?_
              refine lv_iconst (v := 1) hx hb dL_why_134 (by decide) ?_
              refine lv_iload hx hb dL_why_135 (lv_at hl 0 rfl) ?_
              refine lv_ishl hx hb dL_why_137 ?_
              refine lv_ior hx hb dL_why_138 ?_
              refine lv_istore (lv' := [(12, .int (((1 : Int32) <<< (y11 &&& 31)) ||| ((1 : Int32) <<< (y14 &&& 31)))), (11, .int y14), (10, .int y11), (9, .int y5), (8, .int y2), (7, .int (p5 - p5 / 100 * 100)), (6, .int (p5 / 100)), (0, .ref h_t), (1, .ref h_m), (2, .ref h_h), (3, .ref h_g), (4, .ref h_d), (5, .int p5)]) hx hb dL_why_139 hl (by decide) rfl (fun ls hl => ?_)
              refine lv_aload_n hx hb dL_why_141 rfl (lv_at hl 9 rfl) ?_
              refine lv_aload_n hx hb dL_why_142 rfl (lv_at hl 10 rfl) ?_
              obtain ⟨v17, hq18, h⟩ := bd1_e h
              refine zz_cS (As := [.ref h_h, .ref h_g]) ⟨hx, hb, hml, hown, hts⟩ (kL_held l D cI cZ cL h_h h_g fh fg N hq18) (va_cwS 2 hts gL_why_L_held rfl rfl rfl (by decide +kernel) ⟨Nat.le_of_ble_eq_true rfl, Nat.le_of_ble_eq_true rfl⟩) (hP.sub (ws' := [(h_h, .inl (cI, 10, .inl fh)), (h_g, .inl (cI, 7, .inl fg))]) [2, 3] rfl) hKK rfl hl.1 rfl (Nat.le_of_ble_eq_true rfl) dL_why_143 ⟨Nat.le_of_ble_eq_true rfl, Nat.le_of_ble_eq_true rfl⟩ ?_
              refine lv_istore (lv' := [(13, .int v17), (12, .int (((1 : Int32) <<< (y11 &&& 31)) ||| ((1 : Int32) <<< (y14 &&& 31)))), (11, .int y14), (10, .int y11), (9, .int y5), (8, .int y2), (7, .int (p5 - p5 / 100 * 100)), (6, .int (p5 / 100)), (0, .ref h_t), (1, .ref h_m), (2, .ref h_h), (3, .ref h_g), (4, .ref h_d), (5, .int p5)]) hx hb dL_why_146 hl (by decide) rfl (fun ls hl => ?_)
              refine lv_iload hx hb dL_why_148 (lv_at hl 1 rfl) ?_
              refine lv_iload hx hb dL_why_150 (lv_at hl 0 rfl) ?_
              refine lv_iand hx hb dL_why_152 ?_
              refine lv_if_eq (tgt := 158) hx hb dL_why_153 (by decide) (fun c19 => ?_) (fun c19 => ?_)
              · have h := it_t h c19
                refine lv_aload_n hx hb dL_why_158 rfl (lv_at hl 8 rfl) ?_
                refine lv_aload_n hx hb dL_why_159 rfl (lv_at hl 9 rfl) ?_
                refine lv_aload_n hx hb dL_why_160 rfl (lv_at hl 11 rfl) ?_
                refine lv_aload hx hb dL_why_161 (lv_at hl 12 rfl) ?_
                refine lv_iconst (v := 0) hx hb dL_why_163 (by decide) ?_
                obtain ⟨hi20, h⟩ := gin_e h
                refine va_iald hx hb hK hP 4 0 rfl rfl hi20 dL_why_164 ?_
                obtain ⟨w22, hq21, h⟩ := bd1_e h
                refine zz_mS (As := [.ref h_t, .ref h_m, .ref h_g, .int (fd (0 : Int32).toNatClampNeg)]) (wr := [(h_h, .inl (cI, 10, .inl fh)), (h_d, .inl (cI, 3, .inl fd))]) (w1 := [(h_t, .inl (cI, 24, .inl ft)), (h_m, .inl (cI, 16, .inl w22)), (h_g, .inl (cI, 7, .inl fg))]) (wt' := [(h_t, .inl (cI, 24, .inl ft)), (h_m, .inl (cI, 16, .inl w22)), (h_h, .inl (cI, 10, .inl fh)), (h_g, .inl (cI, 7, .inl fg)), (h_d, .inl (cI, 3, .inl fd))]) (wc := [(h_t, .inl (cI, 24, .inl ft)), (h_m, .inl (cI, 16, .inl fm)), (h_g, .inl (cI, 7, .inl fg))]) (rv := none) ⟨hx, hb, hml, hown, hts⟩ (kL_lay l D cI cZ cL H.size h_t h_m h_g ft fm fg (fd (0 : Int32).toNatClampNeg) N hq21) (va_cwS 4 hts gL_why_L_lay rfl rfl rfl (by decide +kernel) ⟨Nat.le_of_ble_eq_true rfl, Nat.le_of_ble_eq_true rfl⟩) hP hD hS hA hKK [0, 1, 3] [2, 4] [2, 3, 0, 4, 1] rfl rfl (by decide) (by decide) rfl (by decide) (by decide) rfl hl.1 rfl (Nat.le_of_ble_eq_true rfl) dL_why_165 ⟨Nat.le_of_ble_eq_true rfl, Nat.le_of_ble_eq_true rfl⟩ (fun H locs hP hD hS hz9 => ?_)
                show W p l e _ s m _ below meth c H locs _ _ QQ (F0 m 168 ls [])
                refine lv_aload_n hx hb dL_why_168 rfl (lv_at hl 9 rfl) ?_
                refine lv_aload_n hx hb dL_why_169 rfl (lv_at hl 11 rfl) ?_
                refine lv_aload hx hb dL_why_170 (lv_at hl 12 rfl) ?_
                refine lv_iconst (v := 2) hx hb dL_why_172 (by decide) ?_
                obtain ⟨hi23, h⟩ := gin_e h
                refine va_iald hx hb hK hP 4 0 rfl rfl hi23 dL_why_173 ?_
                obtain ⟨v24, hq25, h⟩ := bd1_e h
                refine zz_cS (As := [.ref h_m, .ref h_g, .int (fd (2 : Int32).toNatClampNeg)]) ⟨hx, hb, hml, hown, hts⟩ (kL_with l D cI cZ cL h_m h_g w22 fg (fd (2 : Int32).toNatClampNeg) N hq25) (va_cwS 3 hts gL_why_L_with rfl rfl rfl (by decide +kernel) ⟨Nat.le_of_ble_eq_true rfl, Nat.le_of_ble_eq_true rfl⟩) (hP.sub (ws' := [(h_m, .inl (cI, 16, .inl w22)), (h_g, .inl (cI, 7, .inl fg))]) [1, 3] rfl) hKK rfl hl.1 rfl (Nat.le_of_ble_eq_true rfl) dL_why_174 ⟨Nat.le_of_ble_eq_true rfl, Nat.le_of_ble_eq_true rfl⟩ ?_
                refine lv_istore (lv' := [(14, .int v24), (13, .int v17), (12, .int (((1 : Int32) <<< (y11 &&& 31)) ||| ((1 : Int32) <<< (y14 &&& 31)))), (11, .int y14), (10, .int y11), (9, .int y5), (8, .int y2), (7, .int (p5 - p5 / 100 * 100)), (6, .int (p5 / 100)), (0, .ref h_t), (1, .ref h_m), (2, .ref h_h), (3, .ref h_g), (4, .ref h_d), (5, .int p5)]) hx hb dL_why_177 hl (by decide) rfl (fun ls hl => ?_)
                refine lv_aload_n hx hb dL_why_179 rfl (lv_at hl 10 rfl) ?_
                refine lv_aload_n hx hb dL_why_180 rfl (lv_at hl 12 rfl) ?_
                refine lv_aload hx hb dL_why_181 (lv_at hl 13 rfl) ?_
                refine lv_iconst (v := 1) hx hb dL_why_183 (by decide) ?_
                obtain ⟨hi26, h⟩ := gin_e h
                refine va_iald hx hb hK hP 4 0 rfl rfl hi26 dL_why_184 ?_
                obtain ⟨v27, hq28, h⟩ := bd1_e h
                refine zz_cS (As := [.ref h_m, .ref h_g, .int (fd (1 : Int32).toNatClampNeg)]) ⟨hx, hb, hml, hown, hts⟩ (kL_with l D cI cZ cL h_m h_g w22 fg (fd (1 : Int32).toNatClampNeg) N hq28) (va_cwS 3 hts gL_why_L_with rfl rfl rfl (by decide +kernel) ⟨Nat.le_of_ble_eq_true rfl, Nat.le_of_ble_eq_true rfl⟩) (hP.sub (ws' := [(h_m, .inl (cI, 16, .inl w22)), (h_g, .inl (cI, 7, .inl fg))]) [1, 3] rfl) hKK rfl hl.1 rfl (Nat.le_of_ble_eq_true rfl) dL_why_185 ⟨Nat.le_of_ble_eq_true rfl, Nat.le_of_ble_eq_true rfl⟩ ?_
                refine lv_istore (lv' := [(15, .int v27), (14, .int v24), (13, .int v17), (12, .int (((1 : Int32) <<< (y11 &&& 31)) ||| ((1 : Int32) <<< (y14 &&& 31)))), (11, .int y14), (10, .int y11), (9, .int y5), (8, .int y2), (7, .int (p5 - p5 / 100 * 100)), (6, .int (p5 / 100)), (0, .ref h_t), (1, .ref h_m), (2, .ref h_h), (3, .ref h_g), (4, .ref h_d), (5, .int p5)]) hx hb dL_why_188 hl (by decide) rfl (fun ls hl => ?_)
                refine lv_iload hx hb dL_why_190 (lv_at hl 1 rfl) ?_
                refine lv_aload_n hx hb dL_why_192 rfl (lv_at hl 11 rfl) ?_
                refine lv_aload_n hx hb dL_why_193 rfl (lv_at hl 13 rfl) ?_
                refine lv_aload_n hx hb dL_why_194 rfl (lv_at hl 13 rfl) ?_
                refine lv_iconst (v := 3) hx hb dL_why_195 (by decide) ?_
                obtain ⟨hi29, h⟩ := gin_e h
                refine va_iald hx hb hK hP 3 0 rfl rfl hi29 dL_why_196 ?_
                obtain ⟨v30, hq31, h⟩ := bd1_e h
                refine zz_cS (As := [.ref h_m, .ref h_g, .int (fg (3 : Int32).toNatClampNeg)]) ⟨hx, hb, hml, hown, hts⟩ (kL_with l D cI cZ cL h_m h_g w22 fg (fg (3 : Int32).toNatClampNeg) N hq31) (va_cwS 3 hts gL_why_L_with rfl rfl rfl (by decide +kernel) ⟨Nat.le_of_ble_eq_true rfl, Nat.le_of_ble_eq_true rfl⟩) (hP.sub (ws' := [(h_m, .inl (cI, 16, .inl w22)), (h_g, .inl (cI, 7, .inl fg))]) [1, 3] rfl) hKK rfl hl.1 rfl (Nat.le_of_ble_eq_true rfl) dL_why_197 ⟨Nat.le_of_ble_eq_true rfl, Nat.le_of_ble_eq_true rfl⟩ ?_
                refine lv_iand hx hb dL_why_200 ?_
                refine lv_istore (lv' := [(16, .int (v24 &&& v30)), (15, .int v27), (14, .int v24), (13, .int v17), (12, .int (((1 : Int32) <<< (y11 &&& 31)) ||| ((1 : Int32) <<< (y14 &&& 31)))), (11, .int y14), (10, .int y11), (9, .int y5), (8, .int y2), (7, .int (p5 - p5 / 100 * 100)), (6, .int (p5 / 100)), (0, .ref h_t), (1, .ref h_m), (2, .ref h_h), (3, .ref h_g), (4, .ref h_d), (5, .int p5)]) hx hb dL_why_201 hl (by decide) rfl (fun ls hl => ?_)
                refine lv_iload hx hb dL_why_203 (lv_at hl 10 rfl) ?_
                refine lv_iconst (v := 1) hx hb dL_why_205 (by decide) ?_
                refine jn0_e (∀ (H : Heap) (locs : List Loc) (ls : Array Slot), va_P D vwCl [(h_t, .inl (cI, 24, .inl ft)), (h_m, .inl (cI, 16, .inl w22)), (h_h, .inl (cI, 10, .inl fh)), (h_g, .inl (cI, 7, .inl fg)), (h_d, .inl (cI, 3, .inl fd))] H → va_D A [(h_t, .inl (cI, 24, .inl ft)), (h_m, .inl (cI, 16, .inl w22)), (h_h, .inl (cI, 10, .inl fh)), (h_g, .inl (cI, 7, .inl fg)), (h_d, .inl (cI, 3, .inl fd))] → va_S A s.heap H locs → lv_has ls 20 [(16, .int (v24 &&& v30)), (15, .int v27), (14, .int v24), (13, .int v17), (12, .int (((1 : Int32) <<< (y11 &&& 31)) ||| ((1 : Int32) <<< (y14 &&& 31)))), (11, .int y14), (10, .int y11), (9, .int y5), (8, .int y2), (7, .int (p5 - p5 / 100 * 100)), (6, .int (p5 / 100)), (0, .ref h_t), (1, .ref h_m), (2, .ref h_h), (3, .ref h_g), (4, .ref h_d), (5, .int p5)] → W p l e (headSpec wsL_why rmL_why).room s m (([.ref h_t, .ref h_m, .ref h_h, .ref h_g, .ref h_d, .int p5] : List Value).toArray) below meth c H locs (0) (0) QQ (F0 m 227 ls [])) h (fun h H locs ls hP hD hS hl => ?_) (fun g227_32 hg227_33 h => ?_)
                · refine lv_iload hx hb dL_why_227 (lv_at hl 10 rfl) ?_
                  refine lv_iconst (v := 2) hx hb dL_why_229 (by decide) ?_
                  refine jn0_e (∀ (H : Heap) (locs : List Loc) (ls : Array Slot), va_P D vwCl [(h_t, .inl (cI, 24, .inl ft)), (h_m, .inl (cI, 16, .inl w22)), (h_h, .inl (cI, 10, .inl fh)), (h_g, .inl (cI, 7, .inl fg)), (h_d, .inl (cI, 3, .inl fd))] H → va_D A [(h_t, .inl (cI, 24, .inl ft)), (h_m, .inl (cI, 16, .inl w22)), (h_h, .inl (cI, 10, .inl fh)), (h_g, .inl (cI, 7, .inl fg)), (h_d, .inl (cI, 3, .inl fd))] → va_S A s.heap H locs → lv_has ls 20 [(16, .int (v24 &&& v30)), (15, .int v27), (14, .int v24), (13, .int v17), (12, .int (((1 : Int32) <<< (y11 &&& 31)) ||| ((1 : Int32) <<< (y14 &&& 31)))), (11, .int y14), (10, .int y11), (9, .int y5), (8, .int y2), (7, .int (p5 - p5 / 100 * 100)), (6, .int (p5 / 100)), (0, .ref h_t), (1, .ref h_m), (2, .ref h_h), (3, .ref h_g), (4, .ref h_d), (5, .int p5)] → W p l e (headSpec wsL_why rmL_why).room s m (([.ref h_t, .ref h_m, .ref h_h, .ref h_g, .ref h_d, .int p5] : List Value).toArray) below meth c H locs (0) (0) QQ (F0 m 241 ls [])) h (fun h H locs ls hP hD hS hl => ?_) (fun g241_34 hg241_35 h => ?_)
                  · refine lv_iload hx hb dL_why_241 (lv_at hl 10 rfl) ?_
                    refine lv_iconst (v := 4) hx hb dL_why_243 (by decide) ?_
                    refine jn0_e (∀ (H : Heap) (locs : List Loc) (ls : Array Slot), va_P D vwCl [(h_t, .inl (cI, 24, .inl ft)), (h_m, .inl (cI, 16, .inl w22)), (h_h, .inl (cI, 10, .inl fh)), (h_g, .inl (cI, 7, .inl fg)), (h_d, .inl (cI, 3, .inl fd))] H → va_D A [(h_t, .inl (cI, 24, .inl ft)), (h_m, .inl (cI, 16, .inl w22)), (h_h, .inl (cI, 10, .inl fh)), (h_g, .inl (cI, 7, .inl fg)), (h_d, .inl (cI, 3, .inl fd))] → va_S A s.heap H locs → lv_has ls 20 [(16, .int (v24 &&& v30)), (15, .int v27), (14, .int v24), (13, .int v17), (12, .int (((1 : Int32) <<< (y11 &&& 31)) ||| ((1 : Int32) <<< (y14 &&& 31)))), (11, .int y14), (10, .int y11), (9, .int y5), (8, .int y2), (7, .int (p5 - p5 / 100 * 100)), (6, .int (p5 / 100)), (0, .ref h_t), (1, .ref h_m), (2, .ref h_h), (3, .ref h_g), (4, .ref h_d), (5, .int p5)] → W p l e (headSpec wsL_why rmL_why).room s m (([.ref h_t, .ref h_m, .ref h_h, .ref h_g, .ref h_d, .int p5] : List Value).toArray) below meth c H locs (0) (0) QQ (F0 m 257 ls [])) h (fun h H locs ls hP hD hS hl => ?_) (fun g257_36 hg257_37 h => ?_)
                    · refine lv_iload hx hb dL_why_257 (lv_at hl 10 rfl) ?_
                      refine lv_iconst (v := 2) hx hb dL_why_259 (by decide) ?_
                      refine jn1_e (fun (y38 : Int32) => ∀ (H : Heap) (locs : List Loc) (ls : Array Slot), va_P D vwCl [(h_t, .inl (cI, 24, .inl ft)), (h_m, .inl (cI, 16, .inl w22)), (h_h, .inl (cI, 10, .inl fh)), (h_g, .inl (cI, 7, .inl fg)), (h_d, .inl (cI, 3, .inl fd))] H → va_D A [(h_t, .inl (cI, 24, .inl ft)), (h_m, .inl (cI, 16, .inl w22)), (h_h, .inl (cI, 10, .inl fh)), (h_g, .inl (cI, 7, .inl fg)), (h_d, .inl (cI, 3, .inl fd))] → va_S A s.heap H locs → lv_has ls 20 [(16, .int (v24 &&& v30)), (15, .int v27), (14, .int v24), (13, .int v17), (12, .int (((1 : Int32) <<< (y11 &&& 31)) ||| ((1 : Int32) <<< (y14 &&& 31)))), (11, .int y14), (10, .int y11), (9, .int y5), (8, .int y2), (7, .int (p5 - p5 / 100 * 100)), (6, .int (p5 / 100)), (0, .ref h_t), (1, .ref h_m), (2, .ref h_h), (3, .ref h_g), (4, .ref h_d), (5, .int p5)] → W p l e (headSpec wsL_why rmL_why).room s m (([.ref h_t, .ref h_m, .ref h_h, .ref h_g, .ref h_d, .int p5] : List Value).toArray) below meth c H locs (0) (0) QQ (F0 m 278 ls [.int y38])) h (fun y38 h H locs ls hP hD hS hl => ?_) (fun g278_39 hg278_40 h => ?_)
                      · refine lv_istore (lv' := [(17, .int y38), (16, .int (v24 &&& v30)), (15, .int v27), (14, .int v24), (13, .int v17), (12, .int (((1 : Int32) <<< (y11 &&& 31)) ||| ((1 : Int32) <<< (y14 &&& 31)))), (11, .int y14), (10, .int y11), (9, .int y5), (8, .int y2), (7, .int (p5 - p5 / 100 * 100)), (6, .int (p5 / 100)), (0, .ref h_t), (1, .ref h_m), (2, .ref h_h), (3, .ref h_g), (4, .ref h_d), (5, .int p5)]) hx hb dL_why_278 hl (by decide) rfl (fun ls hl => ?_)
                        refine lv_iload hx hb dL_why_280 (lv_at hl 0 rfl) ?_
                        refine jn2_e (fun (w41 : Nat → Int32) (w42 : Nat → Int32) => ∀ (H : Heap) (locs : List Loc) (ls : Array Slot), va_P D vwCl [(h_t, .inl (cI, 24, .inl ft)), (h_m, .inl (cI, 16, .inl w41)), (h_h, .inl (cI, 10, .inl fh)), (h_g, .inl (cI, 7, .inl fg)), (h_d, .inl (cI, 3, .inl w42))] H → va_D A [(h_t, .inl (cI, 24, .inl ft)), (h_m, .inl (cI, 16, .inl w41)), (h_h, .inl (cI, 10, .inl fh)), (h_g, .inl (cI, 7, .inl fg)), (h_d, .inl (cI, 3, .inl w42))] → va_S A s.heap H locs → lv_has ls 20 [(17, .int y38), (16, .int (v24 &&& v30)), (15, .int v27), (14, .int v24), (13, .int v17), (12, .int (((1 : Int32) <<< (y11 &&& 31)) ||| ((1 : Int32) <<< (y14 &&& 31)))), (11, .int y14), (10, .int y11), (9, .int y5), (8, .int y2), (7, .int (p5 - p5 / 100 * 100)), (6, .int (p5 / 100)), (0, .ref h_t), (1, .ref h_m), (2, .ref h_h), (3, .ref h_g), (4, .ref h_d), (5, .int p5)] → W p l e (headSpec wsL_why rmL_why).room s m (([.ref h_t, .ref h_m, .ref h_h, .ref h_g, .ref h_d, .int p5] : List Value).toArray) below meth c H locs (0) (0) QQ (F0 m 327 ls [])) h (fun w41 w42 h H locs ls hP hD hS hl => ?_) (fun g327_43 hg327_44 h => ?_)
                        · refine lv_iload hx hb dL_why_327 (lv_at hl 0 rfl) ?_
                          refine jn2_e (fun (w45 : Nat → Int32) (w46 : Nat → Int32) => ∀ (H : Heap) (locs : List Loc) (ls : Array Slot), va_P D vwCl [(h_t, .inl (cI, 24, .inl ft)), (h_m, .inl (cI, 16, .inl w45)), (h_h, .inl (cI, 10, .inl fh)), (h_g, .inl (cI, 7, .inl fg)), (h_d, .inl (cI, 3, .inl w46))] H → va_D A [(h_t, .inl (cI, 24, .inl ft)), (h_m, .inl (cI, 16, .inl w45)), (h_h, .inl (cI, 10, .inl fh)), (h_g, .inl (cI, 7, .inl fg)), (h_d, .inl (cI, 3, .inl w46))] → va_S A s.heap H locs → lv_has ls 20 [(17, .int y38), (16, .int (v24 &&& v30)), (15, .int v27), (14, .int v24), (13, .int v17), (12, .int (((1 : Int32) <<< (y11 &&& 31)) ||| ((1 : Int32) <<< (y14 &&& 31)))), (11, .int y14), (10, .int y11), (9, .int y5), (8, .int y2), (7, .int (p5 - p5 / 100 * 100)), (6, .int (p5 / 100)), (0, .ref h_t), (1, .ref h_m), (2, .ref h_h), (3, .ref h_g), (4, .ref h_d), (5, .int p5)] → W p l e (headSpec wsL_why rmL_why).room s m (([.ref h_t, .ref h_m, .ref h_h, .ref h_g, .ref h_d, .int p5] : List Value).toArray) below meth c H locs (0) (0) QQ (F0 m 391 ls [])) h (fun w45 w46 h H locs ls hP hD hS hl => ?_) (fun g391_47 hg391_48 h => ?_)
                          · refine lv_aload hx hb dL_why_391 (lv_at hl 16 rfl) ?_
                            refine lv_iload hx hb dL_why_393 (lv_at hl 11 rfl) ?_
                            refine lv_iconst (v := 2) hx hb dL_why_395 (by decide) ?_
                            refine lv_idiv hx hb dL_why_396 (by decide) ?_
                            obtain ⟨hi49, h⟩ := gin_e h
                            refine va_iald hx hb hK hP 4 0 rfl rfl hi49 dL_why_397 ?_
                            refine lv_istore (lv' := [(18, .int (w46 ((p5 / 100) / 2).toNatClampNeg)), (17, .int y38), (16, .int (v24 &&& v30)), (15, .int v27), (14, .int v24), (13, .int v17), (12, .int (((1 : Int32) <<< (y11 &&& 31)) ||| ((1 : Int32) <<< (y14 &&& 31)))), (11, .int y14), (10, .int y11), (9, .int y5), (8, .int y2), (7, .int (p5 - p5 / 100 * 100)), (6, .int (p5 / 100)), (0, .ref h_t), (1, .ref h_m), (2, .ref h_h), (3, .ref h_g), (4, .ref h_d), (5, .int p5)]) hx hb dL_why_398 hl (by decide) rfl (fun ls hl => ?_)
                            refine lv_aload hx hb dL_why_400 (lv_at hl 17 rfl) ?_
                            refine lv_iload hx hb dL_why_402 (lv_at hl 12 rfl) ?_
                            refine lv_iconst (v := 2) hx hb dL_why_404 (by decide) ?_
                            refine lv_idiv hx hb dL_why_405 (by decide) ?_
                            refine lv_iload hx hb dL_why_406 (lv_at hl 0 rfl) ?_
                            refine lv_iconst (v := 1) hx hb dL_why_408 (by decide) ?_
                            refine lv_iload hx hb dL_why_409 (lv_at hl 11 rfl) ?_
                            refine lv_ishl hx hb dL_why_411 ?_
                            refine lv_ixor hx hb dL_why_412 ?_
                            obtain ⟨hi50, h⟩ := gin_e h
                            refine va_iast hx hb hK hP hD hS 4 0 rfl rfl hi50 dL_why_413 (fun H locs hP hD hS => ?_)
                            have hP : va_P D vwCl [(h_t, .inl (cI, 24, .inl ft)), (h_m, .inl (cI, 16, .inl w45)), (h_h, .inl (cI, 10, .inl fh)), (h_g, .inl (cI, 7, .inl fg)), (h_d, .inl (cI, 3, .inl (upd w46 ((p5 / 100) / 2).toNatClampNeg ((w46 ((p5 / 100) / 2).toNatClampNeg) ^^^ ((1 : Int32) <<< ((p5 - p5 / 100 * 100) &&& 31))))))] H := hP
                            have hD : va_D A [(h_t, .inl (cI, 24, .inl ft)), (h_m, .inl (cI, 16, .inl w45)), (h_h, .inl (cI, 10, .inl fh)), (h_g, .inl (cI, 7, .inl fg)), (h_d, .inl (cI, 3, .inl (upd w46 ((p5 / 100) / 2).toNatClampNeg ((w46 ((p5 / 100) / 2).toNatClampNeg) ^^^ ((1 : Int32) <<< ((p5 - p5 / 100 * 100) &&& 31))))))] := hD
                            refine lv_aload_n hx hb dL_why_414 rfl (lv_at hl 13 rfl) ?_
                            refine lv_aload_n hx hb dL_why_415 rfl (lv_at hl 14 rfl) ?_
                            refine lv_aload_n hx hb dL_why_416 rfl (lv_at hl 16 rfl) ?_
                            refine lv_aload hx hb dL_why_417 (lv_at hl 17 rfl) ?_
                            refine lv_iconst (v := 0) hx hb dL_why_419 (by decide) ?_
                            obtain ⟨hi51, h⟩ := gin_e h
                            refine va_iald hx hb hK hP 4 0 rfl rfl hi51 dL_why_420 ?_
                            obtain ⟨w53, hq52, h⟩ := bd1_e h
                            refine zz_mS (As := [.ref h_t, .ref h_m, .ref h_g, .int ((upd w46 ((p5 / 100) / 2).toNatClampNeg ((w46 ((p5 / 100) / 2).toNatClampNeg) ^^^ ((1 : Int32) <<< ((p5 - p5 / 100 * 100) &&& 31)))) (0 : Int32).toNatClampNeg)]) (wr := [(h_h, .inl (cI, 10, .inl fh)), (h_d, .inl (cI, 3, .inl (upd w46 ((p5 / 100) / 2).toNatClampNeg ((w46 ((p5 / 100) / 2).toNatClampNeg) ^^^ ((1 : Int32) <<< ((p5 - p5 / 100 * 100) &&& 31))))))]) (w1 := [(h_t, .inl (cI, 24, .inl ft)), (h_m, .inl (cI, 16, .inl w53)), (h_g, .inl (cI, 7, .inl fg))]) (wt' := [(h_t, .inl (cI, 24, .inl ft)), (h_m, .inl (cI, 16, .inl w53)), (h_h, .inl (cI, 10, .inl fh)), (h_g, .inl (cI, 7, .inl fg)), (h_d, .inl (cI, 3, .inl (upd w46 ((p5 / 100) / 2).toNatClampNeg ((w46 ((p5 / 100) / 2).toNatClampNeg) ^^^ ((1 : Int32) <<< ((p5 - p5 / 100 * 100) &&& 31))))))]) (wc := [(h_t, .inl (cI, 24, .inl ft)), (h_m, .inl (cI, 16, .inl w45)), (h_g, .inl (cI, 7, .inl fg))]) (rv := none) ⟨hx, hb, hml, hown, hts⟩ (kL_lay l D cI cZ cL H.size h_t h_m h_g ft w45 fg ((upd w46 ((p5 / 100) / 2).toNatClampNeg ((w46 ((p5 / 100) / 2).toNatClampNeg) ^^^ ((1 : Int32) <<< ((p5 - p5 / 100 * 100) &&& 31)))) (0 : Int32).toNatClampNeg) N hq52) (va_cwS 4 hts gL_why_L_lay rfl rfl rfl (by decide +kernel) ⟨Nat.le_of_ble_eq_true rfl, Nat.le_of_ble_eq_true rfl⟩) hP hD hS hA hKK [0, 1, 3] [2, 4] [2, 3, 0, 4, 1] rfl rfl (by decide) (by decide) rfl (by decide) (by decide) rfl hl.1 rfl (Nat.le_of_ble_eq_true rfl) dL_why_421 ⟨Nat.le_of_ble_eq_true rfl, Nat.le_of_ble_eq_true rfl⟩ (fun H locs hP hD hS hz9 => ?_)
                            show W p l e _ s m _ below meth c H locs _ _ QQ (F0 m 424 ls [])
                            refine lv_iload hx hb dL_why_424 (lv_at hl 5 rfl) ?_
                            refine lv_aload_n hx hb dL_why_426 rfl (lv_at hl 14 rfl) ?_
                            refine lv_aload_n hx hb dL_why_427 rfl (lv_at hl 16 rfl) ?_
                            refine lv_aload hx hb dL_why_428 (lv_at hl 17 rfl) ?_
                            refine lv_iconst (v := 1) hx hb dL_why_430 (by decide) ?_
                            obtain ⟨hi54, h⟩ := gin_e h
                            refine va_iald hx hb hK hP 4 0 rfl rfl hi54 dL_why_431 ?_
                            obtain ⟨v55, hq56, h⟩ := bd1_e h
                            refine zz_cS (As := [.ref h_m, .ref h_g, .int ((upd w46 ((p5 / 100) / 2).toNatClampNeg ((w46 ((p5 / 100) / 2).toNatClampNeg) ^^^ ((1 : Int32) <<< ((p5 - p5 / 100 * 100) &&& 31)))) (1 : Int32).toNatClampNeg)]) ⟨hx, hb, hml, hown, hts⟩ (kL_with l D cI cZ cL h_m h_g w53 fg ((upd w46 ((p5 / 100) / 2).toNatClampNeg ((w46 ((p5 / 100) / 2).toNatClampNeg) ^^^ ((1 : Int32) <<< ((p5 - p5 / 100 * 100) &&& 31)))) (1 : Int32).toNatClampNeg) N hq56) (va_cwS 3 hts gL_why_L_with rfl rfl rfl (by decide +kernel) ⟨Nat.le_of_ble_eq_true rfl, Nat.le_of_ble_eq_true rfl⟩) (hP.sub (ws' := [(h_m, .inl (cI, 16, .inl w53)), (h_g, .inl (cI, 7, .inl fg))]) [1, 3] rfl) hKK rfl hl.1 rfl (Nat.le_of_ble_eq_true rfl) dL_why_432 ⟨Nat.le_of_ble_eq_true rfl, Nat.le_of_ble_eq_true rfl⟩ ?_
                            refine lv_iconst (v := (-1)) hx hb dL_why_435 (by decide) ?_
                            refine lv_ixor hx hb dL_why_436 ?_
                            refine lv_iand hx hb dL_why_437 ?_
                            refine jn1_e (fun (y57 : Int32) => ∀ (H : Heap) (locs : List Loc) (ls : Array Slot), va_P D vwCl [(h_t, .inl (cI, 24, .inl ft)), (h_m, .inl (cI, 16, .inl w53)), (h_h, .inl (cI, 10, .inl fh)), (h_g, .inl (cI, 7, .inl fg)), (h_d, .inl (cI, 3, .inl (upd w46 ((p5 / 100) / 2).toNatClampNeg ((w46 ((p5 / 100) / 2).toNatClampNeg) ^^^ ((1 : Int32) <<< ((p5 - p5 / 100 * 100) &&& 31))))))] H → va_D A [(h_t, .inl (cI, 24, .inl ft)), (h_m, .inl (cI, 16, .inl w53)), (h_h, .inl (cI, 10, .inl fh)), (h_g, .inl (cI, 7, .inl fg)), (h_d, .inl (cI, 3, .inl (upd w46 ((p5 / 100) / 2).toNatClampNeg ((w46 ((p5 / 100) / 2).toNatClampNeg) ^^^ ((1 : Int32) <<< ((p5 - p5 / 100 * 100) &&& 31))))))] → va_S A s.heap H locs → lv_has ls 20 [(18, .int (w46 ((p5 / 100) / 2).toNatClampNeg)), (17, .int y38), (16, .int (v24 &&& v30)), (15, .int v27), (14, .int v24), (13, .int v17), (12, .int (((1 : Int32) <<< (y11 &&& 31)) ||| ((1 : Int32) <<< (y14 &&& 31)))), (11, .int y14), (10, .int y11), (9, .int y5), (8, .int y2), (7, .int (p5 - p5 / 100 * 100)), (6, .int (p5 / 100)), (0, .ref h_t), (1, .ref h_m), (2, .ref h_h), (3, .ref h_g), (4, .ref h_d), (5, .int p5)] → W p l e (headSpec wsL_why rmL_why).room s m (([.ref h_t, .ref h_m, .ref h_h, .ref h_g, .ref h_d, .int p5] : List Value).toArray) below meth c H locs (0) (0) QQ (F0 m 461 ls [.int y57])) h (fun y57 h H locs ls hP hD hS hl => ?_) (fun g461_58 hg461_59 h => ?_)
                            · refine lv_istore (lv' := [(19, .int y57), (18, .int (w46 ((p5 / 100) / 2).toNatClampNeg)), (17, .int y38), (16, .int (v24 &&& v30)), (15, .int v27), (14, .int v24), (13, .int v17), (12, .int (((1 : Int32) <<< (y11 &&& 31)) ||| ((1 : Int32) <<< (y14 &&& 31)))), (11, .int y14), (10, .int y11), (9, .int y5), (8, .int y2), (7, .int (p5 - p5 / 100 * 100)), (6, .int (p5 / 100)), (0, .ref h_t), (1, .ref h_m), (2, .ref h_h), (3, .ref h_g), (4, .ref h_d), (5, .int p5)]) hx hb dL_why_461 hl (by decide) rfl (fun ls hl => ?_)
                              refine lv_aload hx hb dL_why_463 (lv_at hl 18 rfl) ?_
                              refine lv_iload hx hb dL_why_465 (lv_at hl 13 rfl) ?_
                              refine lv_iconst (v := 2) hx hb dL_why_467 (by decide) ?_
                              refine lv_idiv hx hb dL_why_468 (by decide) ?_
                              refine lv_iload hx hb dL_why_469 (lv_at hl 1 rfl) ?_
                              obtain ⟨hi60, h⟩ := gin_e h
                              refine va_iast hx hb hK hP hD hS 4 0 rfl rfl hi60 dL_why_471 (fun H locs hP hD hS => ?_)
                              have hP : va_P D vwCl [(h_t, .inl (cI, 24, .inl ft)), (h_m, .inl (cI, 16, .inl w53)), (h_h, .inl (cI, 10, .inl fh)), (h_g, .inl (cI, 7, .inl fg)), (h_d, .inl (cI, 3, .inl (upd (upd w46 ((p5 / 100) / 2).toNatClampNeg ((w46 ((p5 / 100) / 2).toNatClampNeg) ^^^ ((1 : Int32) <<< ((p5 - p5 / 100 * 100) &&& 31)))) ((p5 / 100) / 2).toNatClampNeg (w46 ((p5 / 100) / 2).toNatClampNeg))))] H := hP
                              have hD : va_D A [(h_t, .inl (cI, 24, .inl ft)), (h_m, .inl (cI, 16, .inl w53)), (h_h, .inl (cI, 10, .inl fh)), (h_g, .inl (cI, 7, .inl fg)), (h_d, .inl (cI, 3, .inl (upd (upd w46 ((p5 / 100) / 2).toNatClampNeg ((w46 ((p5 / 100) / 2).toNatClampNeg) ^^^ ((1 : Int32) <<< ((p5 - p5 / 100 * 100) &&& 31)))) ((p5 / 100) / 2).toNatClampNeg (w46 ((p5 / 100) / 2).toNatClampNeg))))] := hD
                              refine lv_iload hx hb dL_why_472 (lv_at hl 0 rfl) ?_
                              refine lv_if_eq (tgt := 481) hx hb dL_why_474 (by decide) (fun c61 => ?_) (fun c61 => ?_)
                              · have h := it_t h c61
                                refine lv_iconst (v := 4) hx hb dL_why_481 (by decide) ?_
                                cases h
                                rw [hQQ]
                                exact W.iret hx hb hr (fun t ht hW => ⟨rfl, by rw [ht]; exact hP, hD, hS.F ht⟩) hS.2.2 dL_why_482
                              · have h := it_f h c61
                                refine lv_iconst (v := 0) hx hb dL_why_477 (by decide) ?_
                                refine lv_goto (tgt := 482) hx hb dL_why_478 (by decide) ?_
                                cases h
                                rw [hQQ]
                                exact W.iret hx hb hr (fun t ht hW => ⟨rfl, by rw [ht]; exact hP, hD, hS.F ht⟩) hS.2.2 dL_why_482
                            · refine lv_if_ne (tgt := 460) hx hb dL_why_438 (by decide) (fun c62 => ?_) (fun c62 => ?_)
                              · have h := it_f h c62
                                refine lv_iconst (v := 0) hx hb dL_why_460 (by decide) ?_
                                exact hg461_59 0 h H locs ls hP hD hS (lv_sub hl [0, 1, 2, 3, 4, 5, 6, 7, 8, 9, 10, 11, 12, 13, 14, 15, 16, 17, 18] rfl)
                              · have h := it_t h c62
                                refine lv_iload hx hb dL_why_441 (lv_at hl 5 rfl) ?_
                                refine lv_aload_n hx hb dL_why_443 rfl (lv_at hl 14 rfl) ?_
                                refine lv_aload_n hx hb dL_why_444 rfl (lv_at hl 16 rfl) ?_
                                refine lv_aload hx hb dL_why_445 (lv_at hl 17 rfl) ?_
                                refine lv_iconst (v := 2) hx hb dL_why_447 (by decide) ?_
                                obtain ⟨hi63, h⟩ := gin_e h
                                refine va_iald hx hb hK hP 4 0 rfl rfl hi63 dL_why_448 ?_
                                obtain ⟨v64, hq65, h⟩ := bd1_e h
                                refine zz_cS (As := [.ref h_m, .ref h_g, .int ((upd w46 ((p5 / 100) / 2).toNatClampNeg ((w46 ((p5 / 100) / 2).toNatClampNeg) ^^^ ((1 : Int32) <<< ((p5 - p5 / 100 * 100) &&& 31)))) (2 : Int32).toNatClampNeg)]) ⟨hx, hb, hml, hown, hts⟩ (kL_with l D cI cZ cL h_m h_g w53 fg ((upd w46 ((p5 / 100) / 2).toNatClampNeg ((w46 ((p5 / 100) / 2).toNatClampNeg) ^^^ ((1 : Int32) <<< ((p5 - p5 / 100 * 100) &&& 31)))) (2 : Int32).toNatClampNeg) N hq65) (va_cwS 3 hts gL_why_L_with rfl rfl rfl (by decide +kernel) ⟨Nat.le_of_ble_eq_true rfl, Nat.le_of_ble_eq_true rfl⟩) (hP.sub (ws' := [(h_m, .inl (cI, 16, .inl w53)), (h_g, .inl (cI, 7, .inl fg))]) [1, 3] rfl) hKK rfl hl.1 rfl (Nat.le_of_ble_eq_true rfl) dL_why_449 ⟨Nat.le_of_ble_eq_true rfl, Nat.le_of_ble_eq_true rfl⟩ ?_
                                refine lv_iand hx hb dL_why_452 ?_
                                refine lv_if_ne (tgt := 460) hx hb dL_why_453 (by decide) (fun c66 => ?_) (fun c66 => ?_)
                                · have h := it_f h c66
                                  refine lv_iconst (v := 0) hx hb dL_why_460 (by decide) ?_
                                  exact hg461_59 0 h H locs ls hP hD hS (lv_sub hl [0, 1, 2, 3, 4, 5, 6, 7, 8, 9, 10, 11, 12, 13, 14, 15, 16, 17, 18] rfl)
                                · have h := it_t h c66
                                  refine lv_iconst (v := 1) hx hb dL_why_456 (by decide) ?_
                                  refine lv_goto (tgt := 461) hx hb dL_why_457 (by decide) ?_
                                  exact hg461_59 1 h H locs ls hP hD hS (lv_sub hl [0, 1, 2, 3, 4, 5, 6, 7, 8, 9, 10, 11, 12, 13, 14, 15, 16, 17, 18] rfl)
                          · refine lv_if_eq (tgt := 391) hx hb dL_why_329 (by decide) (fun c67 => ?_) (fun c67 => ?_)
                            · have h := it_t h c67
                              exact hg391_48 w41 w42 h H locs ls hP hD hS (lv_sub hl [0, 1, 2, 3, 4, 5, 6, 7, 8, 9, 10, 11, 12, 13, 14, 15, 16, 17] rfl)
                            · have h := it_f h c67
                              refine lv_iload hx hb dL_why_332 (lv_at hl 11 rfl) ?_
                              refine lv_iconst (v := 1) hx hb dL_why_334 (by decide) ?_
                              refine lv_icmp_ne (tgt := 391) hx hb dL_why_335 (by decide) (fun c68 => ?_) (fun c68 => ?_)
                              · have h := it_f h c68
                                exact hg391_48 w41 w42 h H locs ls hP hD hS (lv_sub hl [0, 1, 2, 3, 4, 5, 6, 7, 8, 9, 10, 11, 12, 13, 14, 15, 16, 17] rfl)
                              · have h := it_t h c68
                                refine lv_aload_n hx hb dL_why_338 rfl (lv_at hl 13 rfl) ?_
                                refine lv_iload hx hb dL_why_339 (lv_at hl 7 rfl) ?_
                                obtain ⟨hi69, h⟩ := gin_e h
                                refine va_iald hx hb hK hP 1 0 rfl rfl hi69 dL_why_341 ?_
                                refine lv_iload hx hb dL_why_342 (lv_at hl 6 rfl) ?_
                                refine lv_ishr hx hb dL_why_344 ?_
                                refine lv_iconst (v := 1) hx hb dL_why_345 (by decide) ?_
                                refine lv_iand hx hb dL_why_346 ?_
                                refine lv_if_ne (tgt := 391) hx hb dL_why_347 (by decide) (fun c70 => ?_) (fun c70 => ?_)
                                · have h := it_f h c70
                                  exact hg391_48 w41 w42 h H locs ls hP hD hS (lv_sub hl [0, 1, 2, 3, 4, 5, 6, 7, 8, 9, 10, 11, 12, 13, 14, 15, 16, 17] rfl)
                                · have h := it_t h c70
                                  refine lv_aload_n hx hb dL_why_350 rfl (lv_at hl 12 rfl) ?_
                                  refine lv_aload_n hx hb dL_why_351 rfl (lv_at hl 13 rfl) ?_
                                  refine lv_aload_n hx hb dL_why_352 rfl (lv_at hl 15 rfl) ?_
                                  refine lv_aload hx hb dL_why_353 (lv_at hl 16 rfl) ?_
                                  refine lv_iconst (v := 0) hx hb dL_why_355 (by decide) ?_
                                  obtain ⟨hi71, h⟩ := gin_e h
                                  refine va_iald hx hb hK hP 4 0 rfl rfl hi71 dL_why_356 ?_
                                  refine lv_iconst (v := 1) hx hb dL_why_357 (by decide) ?_
                                  refine lv_iload hx hb dL_why_358 (lv_at hl 10 rfl) ?_
                                  refine lv_ishl hx hb dL_why_360 ?_
                                  refine lv_ior hx hb dL_why_361 ?_
                                  obtain ⟨w73, hq72, h⟩ := bd1_e h
                                  refine zz_mS (As := [.ref h_t, .ref h_m, .ref h_g, .int ((w42 (0 : Int32).toNatClampNeg) ||| ((1 : Int32) <<< ((p5 - p5 / 100 * 100) &&& 31)))]) (wr := [(h_h, .inl (cI, 10, .inl fh)), (h_d, .inl (cI, 3, .inl w42))]) (w1 := [(h_t, .inl (cI, 24, .inl ft)), (h_m, .inl (cI, 16, .inl w73)), (h_g, .inl (cI, 7, .inl fg))]) (wt' := [(h_t, .inl (cI, 24, .inl ft)), (h_m, .inl (cI, 16, .inl w73)), (h_h, .inl (cI, 10, .inl fh)), (h_g, .inl (cI, 7, .inl fg)), (h_d, .inl (cI, 3, .inl w42))]) (wc := [(h_t, .inl (cI, 24, .inl ft)), (h_m, .inl (cI, 16, .inl w41)), (h_g, .inl (cI, 7, .inl fg))]) (rv := none) ⟨hx, hb, hml, hown, hts⟩ (kL_lay l D cI cZ cL H.size h_t h_m h_g ft w41 fg ((w42 (0 : Int32).toNatClampNeg) ||| ((1 : Int32) <<< ((p5 - p5 / 100 * 100) &&& 31))) N hq72) (va_cwS 4 hts gL_why_L_lay rfl rfl rfl (by decide +kernel) ⟨Nat.le_of_ble_eq_true rfl, Nat.le_of_ble_eq_true rfl⟩) hP hD hS hA hKK [0, 1, 3] [2, 4] [2, 3, 0, 4, 1] rfl rfl (by decide) (by decide) rfl (by decide) (by decide) rfl hl.1 rfl (Nat.le_of_ble_eq_true rfl) dL_why_362 ⟨Nat.le_of_ble_eq_true rfl, Nat.le_of_ble_eq_true rfl⟩ (fun H locs hP hD hS hz9 => ?_)
                                  show W p l e _ s m _ below meth c H locs _ _ QQ (F0 m 365 ls [])
                                  refine lv_aload_n hx hb dL_why_365 rfl (lv_at hl 13 rfl) ?_
                                  refine lv_aload_n hx hb dL_why_366 rfl (lv_at hl 15 rfl) ?_
                                  refine lv_aload hx hb dL_why_367 (lv_at hl 16 rfl) ?_
                                  refine lv_iconst (v := 2) hx hb dL_why_369 (by decide) ?_
                                  obtain ⟨hi74, h⟩ := gin_e h
                                  refine va_iald hx hb hK hP 4 0 rfl rfl hi74 dL_why_370 ?_
                                  obtain ⟨v75, hq76, h⟩ := bd1_e h
                                  refine zz_cS (As := [.ref h_m, .ref h_g, .int (w42 (2 : Int32).toNatClampNeg)]) ⟨hx, hb, hml, hown, hts⟩ (kL_with l D cI cZ cL h_m h_g w73 fg (w42 (2 : Int32).toNatClampNeg) N hq76) (va_cwS 3 hts gL_why_L_with rfl rfl rfl (by decide +kernel) ⟨Nat.le_of_ble_eq_true rfl, Nat.le_of_ble_eq_true rfl⟩) (hP.sub (ws' := [(h_m, .inl (cI, 16, .inl w73)), (h_g, .inl (cI, 7, .inl fg))]) [1, 3] rfl) hKK rfl hl.1 rfl (Nat.le_of_ble_eq_true rfl) dL_why_371 ⟨Nat.le_of_ble_eq_true rfl, Nat.le_of_ble_eq_true rfl⟩ ?_
                                  refine lv_aload_n hx hb dL_why_374 rfl (lv_at hl 13 rfl) ?_
                                  refine lv_aload_n hx hb dL_why_375 rfl (lv_at hl 15 rfl) ?_
                                  refine lv_aload_n hx hb dL_why_376 rfl (lv_at hl 15 rfl) ?_
                                  refine lv_iconst (v := 3) hx hb dL_why_377 (by decide) ?_
                                  obtain ⟨hi77, h⟩ := gin_e h
                                  refine va_iald hx hb hK hP 3 0 rfl rfl hi77 dL_why_378 ?_
                                  obtain ⟨v78, hq79, h⟩ := bd1_e h
                                  refine zz_cS (As := [.ref h_m, .ref h_g, .int (fg (3 : Int32).toNatClampNeg)]) ⟨hx, hb, hml, hown, hts⟩ (kL_with l D cI cZ cL h_m h_g w73 fg (fg (3 : Int32).toNatClampNeg) N hq79) (va_cwS 3 hts gL_why_L_with rfl rfl rfl (by decide +kernel) ⟨Nat.le_of_ble_eq_true rfl, Nat.le_of_ble_eq_true rfl⟩) (hP.sub (ws' := [(h_m, .inl (cI, 16, .inl w73)), (h_g, .inl (cI, 7, .inl fg))]) [1, 3] rfl) hKK rfl hl.1 rfl (Nat.le_of_ble_eq_true rfl) dL_why_379 ⟨Nat.le_of_ble_eq_true rfl, Nat.le_of_ble_eq_true rfl⟩ ?_
                                  refine lv_iand hx hb dL_why_382 ?_
                                  refine lv_iload hx hb dL_why_383 (lv_at hl 5 rfl) ?_
                                  refine lv_iand hx hb dL_why_385 ?_
                                  refine lv_if_eq (tgt := 391) hx hb dL_why_386 (by decide) (fun c80 => ?_) (fun c80 => ?_)
                                  · have h := it_t h c80
                                    exact hg391_48 w73 w42 h H locs ls hP hD hS (lv_sub hl [0, 1, 2, 3, 4, 5, 6, 7, 8, 9, 10, 11, 12, 13, 14, 15, 16, 17] rfl)
                                  · have h := it_f h c80
                                    refine lv_iconst (v := 3) hx hb dL_why_389 (by decide) ?_
                                    cases h
                                    rw [hQQ]
                                    exact W.iret hx hb hr (fun t ht hW => ⟨rfl, by rw [ht]; exact hP, hD, hS.F ht⟩) hS.2.2 dL_why_390
                        · refine lv_if_eq (tgt := 327) hx hb dL_why_282 (by decide) (fun c81 => ?_) (fun c81 => ?_)
                          · have h := it_t h c81
                            exact hg327_44 w22 fd h H locs ls hP hD hS (lv_sub hl [0, 1, 2, 3, 4, 5, 6, 7, 8, 9, 10, 11, 12, 13, 14, 15, 16, 17] rfl)
                          · have h := it_f h c81
                            refine lv_iload hx hb dL_why_285 (lv_at hl 11 rfl) ?_
                            refine lv_if_ne (tgt := 327) hx hb dL_why_287 (by decide) (fun c82 => ?_) (fun c82 => ?_)
                            · have h := it_f h c82
                              exact hg327_44 w22 fd h H locs ls hP hD hS (lv_sub hl [0, 1, 2, 3, 4, 5, 6, 7, 8, 9, 10, 11, 12, 13, 14, 15, 16, 17] rfl)
                            · have h := it_t h c82
                              refine lv_iload hx hb dL_why_290 (lv_at hl 1 rfl) ?_
                              refine lv_iload hx hb dL_why_292 (lv_at hl 5 rfl) ?_
                              refine lv_iand hx hb dL_why_294 ?_
                              refine lv_if_eq (tgt := 327) hx hb dL_why_295 (by decide) (fun c83 => ?_) (fun c83 => ?_)
                              · have h := it_t h c83
                                exact hg327_44 w22 fd h H locs ls hP hD hS (lv_sub hl [0, 1, 2, 3, 4, 5, 6, 7, 8, 9, 10, 11, 12, 13, 14, 15, 16, 17] rfl)
                              · have h := it_f h c83
                                refine lv_aload_n hx hb dL_why_298 rfl (lv_at hl 12 rfl) ?_
                                refine lv_aload_n hx hb dL_why_299 rfl (lv_at hl 13 rfl) ?_
                                refine lv_aload_n hx hb dL_why_300 rfl (lv_at hl 15 rfl) ?_
                                refine lv_aload hx hb dL_why_301 (lv_at hl 16 rfl) ?_
                                refine lv_iconst (v := 0) hx hb dL_why_303 (by decide) ?_
                                obtain ⟨hi84, h⟩ := gin_e h
                                refine va_iald hx hb hK hP 4 0 rfl rfl hi84 dL_why_304 ?_
                                refine lv_iconst (v := 1) hx hb dL_why_305 (by decide) ?_
                                refine lv_iload hx hb dL_why_306 (lv_at hl 10 rfl) ?_
                                refine lv_ishl hx hb dL_why_308 ?_
                                refine lv_ixor hx hb dL_why_309 ?_
                                obtain ⟨w86, hq85, h⟩ := bd1_e h
                                refine zz_mS (As := [.ref h_t, .ref h_m, .ref h_g, .int ((fd (0 : Int32).toNatClampNeg) ^^^ ((1 : Int32) <<< ((p5 - p5 / 100 * 100) &&& 31)))]) (wr := [(h_h, .inl (cI, 10, .inl fh)), (h_d, .inl (cI, 3, .inl fd))]) (w1 := [(h_t, .inl (cI, 24, .inl ft)), (h_m, .inl (cI, 16, .inl w86)), (h_g, .inl (cI, 7, .inl fg))]) (wt' := [(h_t, .inl (cI, 24, .inl ft)), (h_m, .inl (cI, 16, .inl w86)), (h_h, .inl (cI, 10, .inl fh)), (h_g, .inl (cI, 7, .inl fg)), (h_d, .inl (cI, 3, .inl fd))]) (wc := [(h_t, .inl (cI, 24, .inl ft)), (h_m, .inl (cI, 16, .inl w22)), (h_g, .inl (cI, 7, .inl fg))]) (rv := none) ⟨hx, hb, hml, hown, hts⟩ (kL_lay l D cI cZ cL H.size h_t h_m h_g ft w22 fg ((fd (0 : Int32).toNatClampNeg) ^^^ ((1 : Int32) <<< ((p5 - p5 / 100 * 100) &&& 31))) N hq85) (va_cwS 4 hts gL_why_L_lay rfl rfl rfl (by decide +kernel) ⟨Nat.le_of_ble_eq_true rfl, Nat.le_of_ble_eq_true rfl⟩) hP hD hS hA hKK [0, 1, 3] [2, 4] [2, 3, 0, 4, 1] rfl rfl (by decide) (by decide) rfl (by decide) (by decide) rfl hl.1 rfl (Nat.le_of_ble_eq_true rfl) dL_why_310 ⟨Nat.le_of_ble_eq_true rfl, Nat.le_of_ble_eq_true rfl⟩ (fun H locs hP hD hS hz9 => ?_)
                                show W p l e _ s m _ below meth c H locs _ _ QQ (F0 m 313 ls [])
                                refine lv_aload_n hx hb dL_why_313 rfl (lv_at hl 13 rfl) ?_
                                refine lv_iload hx hb dL_why_314 (lv_at hl 7 rfl) ?_
                                obtain ⟨hi87, h⟩ := gin_e h
                                refine va_iald hx hb hK hP 1 0 rfl rfl hi87 dL_why_316 ?_
                                refine lv_iload hx hb dL_why_317 (lv_at hl 6 rfl) ?_
                                refine lv_ishr hx hb dL_why_319 ?_
                                refine lv_iconst (v := 1) hx hb dL_why_320 (by decide) ?_
                                refine lv_iand hx hb dL_why_321 ?_
                                refine lv_if_ne (tgt := 327) hx hb dL_why_322 (by decide) (fun c88 => ?_) (fun c88 => ?_)
                                · have h := it_f h c88
                                  exact hg327_44 w86 fd h H locs ls hP hD hS (lv_sub hl [0, 1, 2, 3, 4, 5, 6, 7, 8, 9, 10, 11, 12, 13, 14, 15, 16, 17] rfl)
                                · have h := it_t h c88
                                  refine lv_iconst (v := 3) hx hb dL_why_325 (by decide) ?_
                                  cases h
                                  rw [hQQ]
                                  exact W.iret hx hb hr (fun t ht hW => ⟨rfl, by rw [ht]; exact hP, hD, hS.F ht⟩) hS.2.2 dL_why_326
                      · refine lv_icmp_ge (tgt := 277) hx hb dL_why_260 (by decide) (fun c89 => ?_) (fun c89 => ?_)
                        · have h := it_t h c89
                          refine lv_iconst (v := 0) hx hb dL_why_277 (by decide) ?_
                          exact hg278_40 0 h H locs ls hP hD hS (lv_sub hl [0, 1, 2, 3, 4, 5, 6, 7, 8, 9, 10, 11, 12, 13, 14, 15, 16] rfl)
                        · have h := it_f h c89
                          refine lv_aload_n hx hb dL_why_263 rfl (lv_at hl 11 rfl) ?_
                          refine lv_iload hx hb dL_why_264 (lv_at hl 9 rfl) ?_
                          obtain ⟨hi90, h⟩ := gin_e h
                          refine va_iald hx hb hK hP 0 0 rfl rfl hi90 dL_why_266 ?_
                          refine lv_sipush (v := 256) hx hb dL_why_267 (by decide) ?_
                          refine lv_icmp_ge (tgt := 277) hx hb dL_why_270 (by decide) (fun c91 => ?_) (fun c91 => ?_)
                          · have h := it_t h c91
                            refine lv_iconst (v := 0) hx hb dL_why_277 (by decide) ?_
                            exact hg278_40 0 h H locs ls hP hD hS (lv_sub hl [0, 1, 2, 3, 4, 5, 6, 7, 8, 9, 10, 11, 12, 13, 14, 15, 16] rfl)
                          · have h := it_f h c91
                            refine lv_iconst (v := 1) hx hb dL_why_273 (by decide) ?_
                            refine lv_goto (tgt := 278) hx hb dL_why_274 (by decide) ?_
                            exact hg278_40 1 h H locs ls hP hD hS (lv_sub hl [0, 1, 2, 3, 4, 5, 6, 7, 8, 9, 10, 11, 12, 13, 14, 15, 16] rfl)
                    · refine lv_icmp_ne (tgt := 257) hx hb dL_why_244 (by decide) (fun c92 => ?_) (fun c92 => ?_)
                      · have h := it_f h c92
                        exact hg257_37 h H locs ls hP hD hS (lv_sub hl [0, 1, 2, 3, 4, 5, 6, 7, 8, 9, 10, 11, 12, 13, 14, 15, 16] rfl)
                      · have h := it_t h c92
                        refine lv_iload hx hb dL_why_247 (lv_at hl 1 rfl) ?_
                        refine lv_iload hx hb dL_why_249 (lv_at hl 4 rfl) ?_
                        refine lv_iand hx hb dL_why_251 ?_
                        refine lv_if_eq (tgt := 257) hx hb dL_why_252 (by decide) (fun c93 => ?_) (fun c93 => ?_)
                        · have h := it_t h c93
                          exact hg257_37 h H locs ls hP hD hS (lv_sub hl [0, 1, 2, 3, 4, 5, 6, 7, 8, 9, 10, 11, 12, 13, 14, 15, 16] rfl)
                        · have h := it_f h c93
                          refine lv_iconst (v := 3) hx hb dL_why_255 (by decide) ?_
                          cases h
                          rw [hQQ]
                          exact W.iret hx hb hr (fun t ht hW => ⟨rfl, by rw [ht]; exact hP, hD, hS.F ht⟩) hS.2.2 dL_why_256
                  · refine lv_icmp_ne (tgt := 241) hx hb dL_why_230 (by decide) (fun c94 => ?_) (fun c94 => ?_)
                    · have h := it_f h c94
                      exact hg241_35 h H locs ls hP hD hS (lv_sub hl [0, 1, 2, 3, 4, 5, 6, 7, 8, 9, 10, 11, 12, 13, 14, 15, 16] rfl)
                    · have h := it_t h c94
                      refine lv_iload hx hb dL_why_233 (lv_at hl 2 rfl) ?_
                      refine lv_iload hx hb dL_why_235 (lv_at hl 4 rfl) ?_
                      refine lv_iand hx hb dL_why_237 ?_
                      refine lv_if_ne (tgt := 255) hx hb dL_why_238 (by decide) (fun c95 => ?_) (fun c95 => ?_)
                      · have h := it_f h c95
                        refine lv_iconst (v := 3) hx hb dL_why_255 (by decide) ?_
                        cases h
                        rw [hQQ]
                        exact W.iret hx hb hr (fun t ht hW => ⟨rfl, by rw [ht]; exact hP, hD, hS.F ht⟩) hS.2.2 dL_why_256
                      · have h := it_t h c95
                        exact hg241_35 h H locs ls hP hD hS (lv_sub hl [0, 1, 2, 3, 4, 5, 6, 7, 8, 9, 10, 11, 12, 13, 14, 15, 16] rfl)
                · refine lv_icmp_ne (tgt := 227) hx hb dL_why_206 (by decide) (fun c96 => ?_) (fun c96 => ?_)
                  · have h := it_f h c96
                    exact hg227_33 h H locs ls hP hD hS (lv_sub hl [0, 1, 2, 3, 4, 5, 6, 7, 8, 9, 10, 11, 12, 13, 14, 15, 16] rfl)
                  · have h := it_t h c96
                    refine lv_iload hx hb dL_why_209 (lv_at hl 2 rfl) ?_
                    refine lv_iload hx hb dL_why_211 (lv_at hl 4 rfl) ?_
                    refine lv_iand hx hb dL_why_213 ?_
                    refine lv_if_eq (tgt := 227) hx hb dL_why_214 (by decide) (fun c97 => ?_) (fun c97 => ?_)
                    · have h := it_t h c97
                      exact hg227_33 h H locs ls hP hD hS (lv_sub hl [0, 1, 2, 3, 4, 5, 6, 7, 8, 9, 10, 11, 12, 13, 14, 15, 16] rfl)
                    · have h := it_f h c97
                      refine lv_iload hx hb dL_why_217 (lv_at hl 1 rfl) ?_
                      refine lv_iload hx hb dL_why_219 (lv_at hl 4 rfl) ?_
                      refine lv_iand hx hb dL_why_221 ?_
                      refine lv_if_eq (tgt := 227) hx hb dL_why_222 (by decide) (fun c98 => ?_) (fun c98 => ?_)
                      · have h := it_t h c98
                        exact hg227_33 h H locs ls hP hD hS (lv_sub hl [0, 1, 2, 3, 4, 5, 6, 7, 8, 9, 10, 11, 12, 13, 14, 15, 16] rfl)
                      · have h := it_f h c98
                        refine lv_iconst (v := 3) hx hb dL_why_225 (by decide) ?_
                        cases h
                        rw [hQQ]
                        exact W.iret hx hb hr (fun t ht hW => ⟨rfl, by rw [ht]; exact hP, hD, hS.F ht⟩) hS.2.2 dL_why_226
              · have h := it_f h c19
                refine lv_iconst (v := 2) hx hb dL_why_156 (by decide) ?_
                cases h
                rw [hQQ]
                exact W.iret hx hb hr (fun t ht hW => ⟨rfl, by rw [ht]; exact hP, hD, hS.F ht⟩) hS.2.2 dL_why_157
            · refine lv_icmp_ge (tgt := 126) hx hb dL_why_111 (by decide) (fun c99 => ?_) (fun c99 => ?_)
              · have h := it_t h c99
                refine lv_iload hx hb dL_why_126 (lv_at hl 3 rfl) ?_
                exact hg128_16 (p5 - p5 / 100 * 100) h H locs ls hP hD hS (lv_sub hl [0, 1, 2, 3, 4, 5, 6, 7, 8, 9, 10] rfl)
              · have h := it_f h c99
                refine lv_aload_n hx hb dL_why_114 rfl (lv_at hl 5 rfl) ?_
                refine lv_iload hx hb dL_why_115 (lv_at hl 3 rfl) ?_
                obtain ⟨hi100, h⟩ := gin_e h
                refine va_iald hx hb hK hP 0 0 rfl rfl hi100 dL_why_117 ?_
                refine lv_iconst (v := 4) hx hb dL_why_118 (by decide) ?_
                refine lv_ishr hx hb dL_why_119 ?_
                refine lv_bipush (v := 15) hx hb dL_why_120 (by decide) ?_
                refine lv_iand hx hb dL_why_122 ?_
                refine lv_goto (tgt := 128) hx hb dL_why_123 (by decide) ?_
                exact hg128_16 (((ft (p5 - p5 / 100 * 100).toNatClampNeg) >>> (4 &&& 31)) &&& 15) h H locs ls hP hD hS (lv_sub hl [0, 1, 2, 3, 4, 5, 6, 7, 8, 9, 10] rfl)
          · refine lv_icmp_ge (tgt := 104) hx hb dL_why_91 (by decide) (fun c101 => ?_) (fun c101 => ?_)
            · have h := it_t h c101
              refine lv_iload hx hb dL_why_104 (lv_at hl 2 rfl) ?_
              exact hg106_13 (p5 - p5 / 100 * 100) h H locs ls hP hD hS (lv_sub hl [0, 1, 2, 3, 4, 5, 6, 7, 8, 9] rfl)
            · have h := it_f h c101
              refine lv_aload_n hx hb dL_why_94 rfl (lv_at hl 4 rfl) ?_
              refine lv_iload hx hb dL_why_95 (lv_at hl 2 rfl) ?_
              obtain ⟨hi102, h⟩ := gin_e h
              refine va_iald hx hb hK hP 0 0 rfl rfl hi102 dL_why_97 ?_
              refine lv_bipush (v := 15) hx hb dL_why_98 (by decide) ?_
              refine lv_iand hx hb dL_why_100 ?_
              refine lv_goto (tgt := 106) hx hb dL_why_101 (by decide) ?_
              exact hg106_13 ((ft (p5 - p5 / 100 * 100).toNatClampNeg) &&& 15) h H locs ls hP hD hS (lv_sub hl [0, 1, 2, 3, 4, 5, 6, 7, 8, 9] rfl)
        · refine lv_icmp_le (tgt := 88) hx hb dL_why_72 (by decide) (fun c103 => ?_) (fun c103 => ?_)
          · have h := it_t h c103
            exact hg88_10 h H locs ls hP hD hS (lv_sub hl [0, 1, 2, 3, 4, 5, 6, 7, 8, 9] rfl)
          · have h := it_f h c103
            refine lv_aload_n hx hb dL_why_75 rfl (lv_at hl 7 rfl) ?_
            refine lv_iconst (v := 2) hx hb dL_why_76 (by decide) ?_
            obtain ⟨hi104, h⟩ := gin_e h
            refine va_iald hx hb hK hP 3 0 rfl rfl hi104 dL_why_77 ?_
            refine lv_iload hx hb dL_why_78 (lv_at hl 2 rfl) ?_
            refine lv_ishr hx hb dL_why_80 ?_
            refine lv_iconst (v := 1) hx hb dL_why_81 (by decide) ?_
            refine lv_iand hx hb dL_why_82 ?_
            refine lv_if_ne (tgt := 88) hx hb dL_why_83 (by decide) (fun c105 => ?_) (fun c105 => ?_)
            · have h := it_f h c105
              exact hg88_10 h H locs ls hP hD hS (lv_sub hl [0, 1, 2, 3, 4, 5, 6, 7, 8, 9] rfl)
            · have h := it_t h c105
              refine lv_iconst (v := 1) hx hb dL_why_86 (by decide) ?_
              cases h
              rw [hQQ]
              exact W.iret hx hb hr (fun t ht hW => ⟨rfl, by rw [ht]; exact hP, hD, hS.F ht⟩) hS.2.2 dL_why_87
    · refine lv_icmp_eq (tgt := 55) hx hb dL_why_40 (by decide) (fun c106 => ?_) (fun c106 => ?_)
      · have h := it_t h c106
        refine lv_iconst (v := 1) hx hb dL_why_55 (by decide) ?_
        refine lv_goto (tgt := 60) hx hb dL_why_56 (by decide) ?_
        exact hg60_7 1 h H locs ls hP hD hS (lv_sub hl [0, 1, 2, 3, 4, 5, 6, 7, 8] rfl)
      · have h := it_f h c106
        refine lv_iload hx hb dL_why_43 (lv_at hl 2 rfl) ?_
        refine lv_iconst (v := 2) hx hb dL_why_45 (by decide) ?_
        refine lv_icmp_eq (tgt := 55) hx hb dL_why_46 (by decide) (fun c107 => ?_) (fun c107 => ?_)
        · have h := it_t h c107
          refine lv_iconst (v := 1) hx hb dL_why_55 (by decide) ?_
          refine lv_goto (tgt := 60) hx hb dL_why_56 (by decide) ?_
          exact hg60_7 1 h H locs ls hP hD hS (lv_sub hl [0, 1, 2, 3, 4, 5, 6, 7, 8] rfl)
        · have h := it_f h c107
          refine lv_iload hx hb dL_why_49 (lv_at hl 2 rfl) ?_
          refine lv_iconst (v := 4) hx hb dL_why_51 (by decide) ?_
          refine lv_icmp_ne (tgt := 59) hx hb dL_why_52 (by decide) (fun c108 => ?_) (fun c108 => ?_)
          · have h := it_f h c108
            refine lv_iconst (v := 0) hx hb dL_why_59 (by decide) ?_
            exact hg60_7 0 h H locs ls hP hD hS (lv_sub hl [0, 1, 2, 3, 4, 5, 6, 7, 8] rfl)
          · have h := it_t h c108
            refine lv_iconst (v := 1) hx hb dL_why_55 (by decide) ?_
            refine lv_goto (tgt := 60) hx hb dL_why_56 (by decide) ?_
            exact hg60_7 1 h H locs ls hP hD hS (lv_sub hl [0, 1, 2, 3, 4, 5, 6, 7, 8] rfl)
  · refine lv_icmp_ne (tgt := 34) hx hb dL_why_27 (by decide) (fun c109 => ?_) (fun c109 => ?_)
    · have h := it_f h c109
      refine lv_iconst (v := 0) hx hb dL_why_34 (by decide) ?_
      exact hg35_4 0 h H locs ls hP hD hS (lv_sub hl [0, 1, 2, 3, 4, 5, 6, 7] rfl)
    · have h := it_t h c109
      refine lv_iconst (v := 1) hx hb dL_why_30 (by decide) ?_
      refine lv_goto (tgt := 35) hx hb dL_why_31 (by decide) ?_
      exact hg35_4 1 h H locs ls hP hD hS (lv_sub hl [0, 1, 2, 3, 4, 5, 6, 7] rfl)

def fL_randomAct (N : Nat) (fg : Nat → Int32) (p0 : Int32) : Option ((Int32)) :=
  bd1 (fL_low N  p0 10) (fun v1 => jn1 (fun (y3 : Int32) => jn1 (fun (x6 : Int32) => (if 2 ≤ x6 then gin 0 7 (bd1 (fL_low N  (p0 >>> (5 &&& 31)) (fg (0 : Int32).toNatClampNeg)) (fun v11 => some (((100 : Int32) * x6) + v11))) else gin 1 7 (bd1 (fL_low N  (p0 >>> (5 &&& 31)) (fg (1 : Int32).toNatClampNeg)) (fun v14 => some (((100 : Int32) * x6) + v14))))) (fun g33_7 => (if 2 ≤ y3 then g33_7 y3 else gin 1 7 ((if (fg (1 : Int32).toNatClampNeg) = 0 then g33_7 4 else g33_7 y3))))) (fun g19_4 => (if v1 ≤ 5 then g19_4 v1 else g19_4 (v1 - v1 / 2 * 2))))
abbrev rmL_randomAct : Room := { frames := 1, cells := 0, slots := 0, locals := 21 }
set_option maxHeartbeats 16000000 in
set_option maxRecDepth 200000 in
theorem kL_randomAct (l : Launch) (D : va_G) (cI cZ cL : ClassId) (h_g : Nat) (fg : Nat → Int32) (p0 : Int32) (N : Nat) {r : Int32} (h : fL_randomAct N fg p0 = some r) : Met l yL_randomAct wsL_randomAct rmL_randomAct (PR D cI cZ cL [.int p0, .ref h_g] [(h_g, .inl (cI, 7, .inl fg))]) (vp_Si (fun z => z = r)) 0 0 (fun _ => False) := by
  refine Met.ofW (cc := cL_randomAct) (maxL := 3) (ret := (some .int)) (by decide) rfl ?_
  intro p e s m args below meth c s₁ B hml hv
  obtain ⟨rfl, hP, hKK⟩ := hv
  have hK := hKK.1
  have hx := B.exec
  have hb := B.bytes
  have hr := B.returns
  have hts := atoms_spec (ws := wsL_randomAct) B.pre
  have hown : s.vm.findClass RL = some m.cls := findClass_of_methodNamed B.named
  have hlocks := B.notSynchronized
  have hl := lv_entry ([.int p0, .ref h_g]) (n := 3) (Nat.le_of_ble_eq_true rfl)
  rw [lg_entry_eq]
  generalize (lg_sl ([.int p0, .ref h_g]) ++ List.replicate (3 - (lg_sl ([.int p0, .ref h_g])).length) Slot.unset).toArray = ls at hl ⊢
  have hl : lv_has ls 3 [(0, .int p0), (1, .ref h_g)] := hl
  obtain ⟨QQ, hQQ⟩ : ∃ Z, Z = MQ below (vp_Si (fun z => z = r)) ([.int p0, .ref h_g] : List Value).toArray s 0 0 (fun _ => False) := ⟨_, rfl⟩
  rw [← hQQ]
  unfold fL_randomAct at h
  refine lv_iload_n hx hb dL_randomAct_0 rfl (lv_at hl 0 rfl) ?_
  refine lv_bipush (v := 10) hx hb dL_randomAct_1 (by decide) ?_
  obtain ⟨v1, hq2, h⟩ := bd1_e h
  refine zz_cS (As := [.int p0, .int 10]) ⟨hx, hb, hml, hown, hts⟩ (kL_low l D cI cZ cL p0 10 N hq2) (va_cwS 2 hts gL_randomAct_L_low rfl rfl rfl (by decide +kernel) ⟨Nat.le_of_ble_eq_true rfl, Nat.le_of_ble_eq_true rfl⟩) (hP.sub (ws' := []) [] rfl) hKK rfl hl.1 rfl (Nat.le_of_ble_eq_true rfl) dL_randomAct_3 ⟨Nat.le_of_ble_eq_true rfl, Nat.le_of_ble_eq_true rfl⟩ ?_
  refine lv_istore_n (lv' := [(2, .int v1), (0, .int p0), (1, .ref h_g)]) hx hb dL_randomAct_6 rfl hl (by decide) rfl (fun ls hl => ?_)
  refine lv_iload_n hx hb dL_randomAct_7 rfl (lv_at hl 0 rfl) ?_
  refine lv_iconst (v := 5) hx hb dL_randomAct_8 (by decide) ?_
  refine jn1_e (fun (y3 : Int32) => ∀ ls : Array Slot, lv_has ls 3 [(2, .int v1), (0, .int p0), (1, .ref h_g)] → W p l e (headSpec wsL_randomAct rmL_randomAct).room s m (([.int p0, .ref h_g] : List Value).toArray) below meth c s.heap [] (0) (0) QQ (F0 m 19 ls [.int y3])) h (fun y3 h ls hl => ?_) (fun g19_4 hg19_5 h => ?_)
  · refine lv_istore_n (lv' := [(2, .int y3), (0, .int p0), (1, .ref h_g)]) hx hb dL_randomAct_19 rfl hl (by decide) rfl (fun ls hl => ?_)
    refine lv_iload_n hx hb dL_randomAct_20 rfl (lv_at hl 0 rfl) ?_
    refine lv_iconst (v := 2) hx hb dL_randomAct_21 (by decide) ?_
    refine jn1_e (fun (x6 : Int32) => ∀ ls : Array Slot, lv_has ls 3 [(2, .int x6), (0, .int p0), (1, .ref h_g)] → W p l e (headSpec wsL_randomAct rmL_randomAct).room s m (([.int p0, .ref h_g] : List Value).toArray) below meth c s.heap [] (0) (0) QQ (F0 m 33 ls [])) h (fun x6 h ls hl => ?_) (fun g33_7 hg33_8 h => ?_)
    · refine lv_bipush (v := 100) hx hb dL_randomAct_33 (by decide) ?_
      refine lv_iload_n hx hb dL_randomAct_35 rfl (lv_at hl 0 rfl) ?_
      refine lv_imul hx hb dL_randomAct_36 ?_
      refine lv_iload_n hx hb dL_randomAct_37 rfl (lv_at hl 1 rfl) ?_
      refine lv_iconst (v := 5) hx hb dL_randomAct_38 (by decide) ?_
      refine lv_ishr hx hb dL_randomAct_39 ?_
      refine lv_iload_n hx hb dL_randomAct_40 rfl (lv_at hl 0 rfl) ?_
      refine lv_iconst (v := 2) hx hb dL_randomAct_41 (by decide) ?_
      refine lv_icmp_ge (tgt := 51) hx hb dL_randomAct_42 (by decide) (fun c9 => ?_) (fun c9 => ?_)
      · have h := it_t h c9
        refine lv_aload_n hx hb dL_randomAct_51 rfl (lv_at hl 2 rfl) ?_
        refine lv_iconst (v := 0) hx hb dL_randomAct_52 (by decide) ?_
        obtain ⟨hi10, h⟩ := gin_e h
        refine va_iald hx hb hK hP 0 0 rfl rfl hi10 dL_randomAct_53 ?_
        obtain ⟨v11, hq12, h⟩ := bd1_e h
        refine zz_cS (As := [.int (p0 >>> (5 &&& 31)), .int (fg (0 : Int32).toNatClampNeg)]) ⟨hx, hb, hml, hown, hts⟩ (kL_low l D cI cZ cL (p0 >>> (5 &&& 31)) (fg (0 : Int32).toNatClampNeg) N hq12) (va_cwS 2 hts gL_randomAct_L_low rfl rfl rfl (by decide +kernel) ⟨Nat.le_of_ble_eq_true rfl, Nat.le_of_ble_eq_true rfl⟩) (hP.sub (ws' := []) [] rfl) hKK rfl hl.1 rfl (Nat.le_of_ble_eq_true rfl) dL_randomAct_54 ⟨Nat.le_of_ble_eq_true rfl, Nat.le_of_ble_eq_true rfl⟩ ?_
        refine lv_iadd hx hb dL_randomAct_57 ?_
        rw [hQQ]
        exact W.iret (v := ((100 : Int32) * x6) + v11) hx hb hr (fun t ht hW => ⟨_, rfl, Option.some.inj h, ht⟩) (fun q hq => absurd hq List.not_mem_nil) dL_randomAct_58
      · have h := it_f h c9
        refine lv_aload_n hx hb dL_randomAct_45 rfl (lv_at hl 2 rfl) ?_
        refine lv_iconst (v := 1) hx hb dL_randomAct_46 (by decide) ?_
        obtain ⟨hi13, h⟩ := gin_e h
        refine va_iald hx hb hK hP 0 0 rfl rfl hi13 dL_randomAct_47 ?_
        refine lv_goto (tgt := 54) hx hb dL_randomAct_48 (by decide) ?_
        obtain ⟨v14, hq15, h⟩ := bd1_e h
        refine zz_cS (As := [.int (p0 >>> (5 &&& 31)), .int (fg (1 : Int32).toNatClampNeg)]) ⟨hx, hb, hml, hown, hts⟩ (kL_low l D cI cZ cL (p0 >>> (5 &&& 31)) (fg (1 : Int32).toNatClampNeg) N hq15) (va_cwS 2 hts gL_randomAct_L_low rfl rfl rfl (by decide +kernel) ⟨Nat.le_of_ble_eq_true rfl, Nat.le_of_ble_eq_true rfl⟩) (hP.sub (ws' := []) [] rfl) hKK rfl hl.1 rfl (Nat.le_of_ble_eq_true rfl) dL_randomAct_54 ⟨Nat.le_of_ble_eq_true rfl, Nat.le_of_ble_eq_true rfl⟩ ?_
        refine lv_iadd hx hb dL_randomAct_57 ?_
        rw [hQQ]
        exact W.iret (v := ((100 : Int32) * x6) + v14) hx hb hr (fun t ht hW => ⟨_, rfl, Option.some.inj h, ht⟩) (fun q hq => absurd hq List.not_mem_nil) dL_randomAct_58
    · refine lv_icmp_ge (tgt := 33) hx hb dL_randomAct_22 (by decide) (fun c16 => ?_) (fun c16 => ?_)
      · have h := it_t h c16
        exact hg33_8 y3 h ls (lv_sub hl [0, 1, 2] rfl)
      · have h := it_f h c16
        refine lv_aload_n hx hb dL_randomAct_25 rfl (lv_at hl 2 rfl) ?_
        refine lv_iconst (v := 1) hx hb dL_randomAct_26 (by decide) ?_
        obtain ⟨hi17, h⟩ := gin_e h
        refine va_iald hx hb hK hP 0 0 rfl rfl hi17 dL_randomAct_27 ?_
        refine lv_if_ne (tgt := 33) hx hb dL_randomAct_28 (by decide) (fun c18 => ?_) (fun c18 => ?_)
        · have h := it_f h c18
          exact hg33_8 y3 h ls (lv_sub hl [0, 1, 2] rfl)
        · have h := it_t h c18
          refine lv_iconst (v := 4) hx hb dL_randomAct_31 (by decide) ?_
          refine lv_istore_n (lv' := [(2, .int 4), (0, .int p0), (1, .ref h_g)]) hx hb dL_randomAct_32 rfl hl (by decide) rfl (fun ls hl => ?_)
          exact hg33_8 4 h ls (lv_sub hl [0, 1, 2] rfl)
  · refine lv_icmp_le (tgt := 18) hx hb dL_randomAct_9 (by decide) (fun c19 => ?_) (fun c19 => ?_)
    · have h := it_t h c19
      refine lv_iload_n hx hb dL_randomAct_18 rfl (lv_at hl 0 rfl) ?_
      exact hg19_5 v1 h ls (lv_sub hl [0, 1, 2] rfl)
    · have h := it_f h c19
      refine lv_iload_n hx hb dL_randomAct_12 rfl (lv_at hl 0 rfl) ?_
      refine lv_iconst (v := 2) hx hb dL_randomAct_13 (by decide) ?_
      refine lv_irem hx hb dL_randomAct_14 (by decide) ?_
      refine lv_goto (tgt := 19) hx hb dL_randomAct_15 (by decide) ?_
      exact hg19_5 (v1 - v1 / 2 * 2) h ls (lv_sub hl [0, 1, 2] rfl)
