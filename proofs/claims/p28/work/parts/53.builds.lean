def fL_builds (N : Nat) (nc : Int32) (sc : Int32) (br : Int32) (so : Int32) (lo : Int32) (ends : Nat → Int32) (ft : Nat → Int32) (fg : Nat → Int32) (p1 : Int32) : Option ((Int32) × (Int32) × (Int32) × (Nat → Int32) × (Int32) × (Int32) × (Nat → Int32) × (Nat → Int32)) :=
  gin 0 7 (jn0 (jn1 (fun (y4 : Int32) => jn1 (fun (y7 : Int32) => gin 2 7 (jn1 (fun (y11 : Int32) => gin 2 7 (gin 3 7 (jn1 (fun (y16 : Int32) => gin 3 7 (gin 0 7 (gin 0 7 (bd4 (fL_addNode N nc sc br so lo y4 y7) (fun k22 w23 w24 w25 => gin 0 7 ((if k22 = (((upd (upd (upd fg (2 : Int32).toNatClampNeg ((fg (2 : Int32).toNatClampNeg) ||| y11)) (3 : Int32).toNatClampNeg (((upd fg (2 : Int32).toNatClampNeg ((fg (2 : Int32).toNatClampNeg) ||| y11)) (3 : Int32).toNatClampNeg) ||| y16)) (0 : Int32).toNatClampNeg (((upd (upd fg (2 : Int32).toNatClampNeg ((fg (2 : Int32).toNatClampNeg) ||| y11)) (3 : Int32).toNatClampNeg (((upd fg (2 : Int32).toNatClampNeg ((fg (2 : Int32).toNatClampNeg) ||| y11)) (3 : Int32).toNatClampNeg) ||| y16)) (0 : Int32).toNatClampNeg) + 1)) (0 : Int32).toNatClampNeg) - 1) then some (w23, w24, w25, ends, sc, br, ft, upd (upd (upd fg (2 : Int32).toNatClampNeg ((fg (2 : Int32).toNatClampNeg) ||| y11)) (3 : Int32).toNatClampNeg (((upd fg (2 : Int32).toNatClampNeg ((fg (2 : Int32).toNatClampNeg) ||| y11)) (3 : Int32).toNatClampNeg) ||| y16)) (0 : Int32).toNatClampNeg (((upd (upd fg (2 : Int32).toNatClampNeg ((fg (2 : Int32).toNatClampNeg) ||| y11)) (3 : Int32).toNatClampNeg (((upd fg (2 : Int32).toNatClampNeg ((fg (2 : Int32).toNatClampNeg) ||| y11)) (3 : Int32).toNatClampNeg) ||| y16)) (0 : Int32).toNatClampNeg) + 1)) else none))))))) (fun g88_17 => (if y7 = 0 then g88_17 0 else gin 0 7 (g88_17 ((1 : Int32) <<< (((upd fg (2 : Int32).toNatClampNeg ((fg (2 : Int32).toNatClampNeg) ||| y11)) (0 : Int32).toNatClampNeg) &&& 31)))))))) (fun g68_12 => (if y4 = 0 then g68_12 0 else gin 0 7 (g68_12 ((1 : Int32) <<< ((fg (0 : Int32).toNatClampNeg) &&& 31))))))) (fun g48_8 => (if (p1 &&& 96) = 0 then g48_8 1 else g48_8 0))) (fun g34_5 => (if (p1 &&& 24) = 0 then g34_5 1 else g34_5 0))) (fun g22_2 => (if (fg (0 : Int32).toNatClampNeg) < 2 then g22_2 else jn0 (gin 0 7 (bd1 (fL_low N  (p1 >>> (3 &&& 31)) (fg (0 : Int32).toNatClampNeg)) (fun v39 => gin 0 7 (bd1 (fL_low N  (p1 >>> (7 &&& 31)) (fg (0 : Int32).toNatClampNeg)) (fun v42 => jn1 (fun (y44 : Int32) => gin 0 7 (bd4 (fL_addSwitch N nc sc br so lo ends v39 (fg (0 : Int32).toNatClampNeg) y44) (fun k48 w49 w50 w51 => (if k48 = (-72) then bd4 (fL_addSwitch N nc w50 w51 so lo w49 (-1) v39 y44) (fun k54 w55 w56 w57 => (if k54 = (-72) then (if v39 = v42 then bd4 (fL_addSwitch N nc w56 w57 so lo w55 v39 v39 y44) (fun k84 w85 w86 w87 => (if k84 = (-71) then some (nc, so, lo, w85, w86, w87, ft, fg) else none)) else gin 1 7 ((if (fg (1 : Int32).toNatClampNeg) = 24 then bd4 (fL_addSwitch N nc w56 w57 so lo w55 v39 v42 y44) (fun k78 w79 w80 w81 => (if k78 = (-73) then some (nc, so, lo, w79, w80, w81, ft, fg) else none)) else gin 1 7 (jn1 (fun (y64 : Int32) => gin (fg (1 : Int32).toNatClampNeg) 24 (gin 1 7 (gin 1 7 (bd4 (fL_addSwitch N nc w56 w57 so lo w55 v39 v42 y44) (fun k70 w71 w72 w73 => gin 1 7 ((if k70 = (((upd fg (1 : Int32).toNatClampNeg ((fg (1 : Int32).toNatClampNeg) + 1)) (1 : Int32).toNatClampNeg) - 1) then some (nc, so, lo, w71, w72, w73, upd ft (fg (1 : Int32).toNatClampNeg).toNatClampNeg ((v39 + ((16 : Int32) * v42)) + y64), upd fg (1 : Int32).toNatClampNeg ((fg (1 : Int32).toNatClampNeg) + 1)) else none))))))) (fun g270_65 => (if y44 = 0 then g270_65 0 else g270_65 256)))))) else none)) else none)))) (fun g155_45 => (if (p1 &&& 12288) ≤ 0 then g155_45 0 else g155_45 1))))))) (fun g119_36 => (if (p1 &&& 6) = 0 then gin 0 7 ((if 16 ≤ (fg (0 : Int32).toNatClampNeg) then g119_36 else g22_2)) else g119_36)))))
abbrev rmL_builds : Room := { frames := 9, cells := 16, slots := 96, locals := 151 }
set_option maxHeartbeats 16000000 in
set_option maxRecDepth 200000 in
theorem kL_builds (l : Launch) (hl0 : l.stackTraces = false) (D : va_G) (cI cZ cL : ClassId) (sz0 : Nat) (h_x a_now a_don a_wri a_per a_tho a_aft h_net h_ends h_t h_g : Nat) (nc : Int32) (sc : Int32) (br : Int32) (so : Int32) (lo : Int32) (ends : Nat → Int32) (ft : Nat → Int32) (fg : Nat → Int32) (p1 : Int32) (N : Nat) {r_0 : Int32} {r_1 : Int32} {r_2 : Int32} {r_3 : Nat → Int32} {r_4 : Int32} {r_5 : Int32} {r_6 : Nat → Int32} {r_7 : Nat → Int32} (h : fL_builds N nc sc br so lo ends ft fg p1 = some (r_0, r_1, r_2, r_3, r_4, r_5, r_6, r_7)) : Met l yL_builds wsL_builds rmL_builds (PH D cI cZ cL [.ref h_x, .int p1, .ref h_t, .ref h_g] [(h_x, .inr (4, [.ref h_net, .ref a_now, .ref a_don, .ref a_wri, .ref a_per, .ref a_tho, .ref a_aft])), (h_net, .inr (1, [.ref h_ends, .int nc, .int sc, .int br, .int so, .int lo])), (h_ends, .inl (cI, 24, .inl ends)), (h_t, .inl (cI, 24, .inl ft)), (h_g, .inl (cI, 7, .inl fg))] sz0) (QM D (some (.int 1)) (va_A [(h_x, .inr (4, [.ref h_net, .ref a_now, .ref a_don, .ref a_wri, .ref a_per, .ref a_tho, .ref a_aft])), (h_net, .inr (1, [.ref h_ends, .int nc, .int sc, .int br, .int so, .int lo])), (h_ends, .inl (cI, 24, .inl ends)), (h_t, .inl (cI, 24, .inl ft)), (h_g, .inl (cI, 7, .inl fg))] sz0) [(h_x, .inr (4, [.ref h_net, .ref a_now, .ref a_don, .ref a_wri, .ref a_per, .ref a_tho, .ref a_aft])), (h_net, .inr (1, [.ref h_ends, .int r_0, .int r_4, .int r_5, .int r_1, .int r_2])), (h_ends, .inl (cI, 24, .inl r_3)), (h_t, .inl (cI, 24, .inl r_6)), (h_g, .inl (cI, 7, .inl r_7))]) 16 96 (va_A [(h_x, .inr (4, [.ref h_net, .ref a_now, .ref a_don, .ref a_wri, .ref a_per, .ref a_tho, .ref a_aft])), (h_net, .inr (1, [.ref h_ends, .int nc, .int sc, .int br, .int so, .int lo])), (h_ends, .inl (cI, 24, .inl ends)), (h_t, .inl (cI, 24, .inl ft)), (h_g, .inl (cI, 7, .inl fg))] sz0) := by
  refine Met.ofW (cc := cL_builds) (maxL := 7) (ret := (some .boolean)) (by decide) rfl ?_
  intro p e s m args below meth c s₁ B hml hv
  obtain ⟨rfl, hsz, hP, hKK, hD0, hKS, hKZ, hKX⟩ := hv
  have hK := hKK.1
  have hx := B.exec
  have hb := B.bytes
  have hr := B.returns
  have hts := atoms_spec (ws := wsL_builds) B.pre
  have hown : s.vm.findClass RL = some m.cls := findClass_of_methodNamed B.named
  have hlocks := B.notSynchronized
  subst hsz
  have hD := hD0.self (sz := s.heap.size)
  generalize hAe : va_A [(h_x, .inr (4, [.ref h_net, .ref a_now, .ref a_don, .ref a_wri, .ref a_per, .ref a_tho, .ref a_aft])), (h_net, .inr (1, [.ref h_ends, .int nc, .int sc, .int br, .int so, .int lo])), (h_ends, .inl (cI, 24, .inl ends)), (h_t, .inl (cI, 24, .inl ft)), (h_g, .inl (cI, 7, .inl fg))] s.heap.size = A at hD hKZ ⊢
  have hA : ∀ q : Nat, s.heap.size ≤ q → A q := fun q h => by rw [← hAe]; exact Or.inr h
  have hS : va_S A s.heap s.heap [] := va_S.rf
  have hl := lv_entry ([.ref h_x, .int p1, .ref h_t, .ref h_g]) (n := 7) (Nat.le_of_ble_eq_true rfl)
  rw [lg_entry_eq]
  generalize (lg_sl ([.ref h_x, .int p1, .ref h_t, .ref h_g]) ++ List.replicate (7 - (lg_sl ([.ref h_x, .int p1, .ref h_t, .ref h_g])).length) Slot.unset).toArray = ls at hl ⊢
  have hl : lv_has ls 7 [(0, .ref h_x), (1, .int p1), (2, .ref h_t), (3, .ref h_g)] := hl
  obtain ⟨QQ, hQQ⟩ : ∃ Z, Z = MQ below (QM D (some (.int 1)) A [(h_x, .inr (4, [.ref h_net, .ref a_now, .ref a_don, .ref a_wri, .ref a_per, .ref a_tho, .ref a_aft])), (h_net, .inr (1, [.ref h_ends, .int r_0, .int r_4, .int r_5, .int r_1, .int r_2])), (h_ends, .inl (cI, 24, .inl r_3)), (h_t, .inl (cI, 24, .inl r_6)), (h_g, .inl (cI, 7, .inl r_7))]) ([.ref h_x, .int p1, .ref h_t, .ref h_g] : List Value).toArray s 16 96 A := ⟨_, rfl⟩
  rw [← hQQ]
  obtain ⟨H, locs, hHe, hLe⟩ : ∃ (H : Heap) (locs : List Loc), H = s.heap ∧ locs = [] := ⟨_, _, rfl, rfl⟩
  have hP : va_P D vwCl [(h_x, .inr (4, [.ref h_net, .ref a_now, .ref a_don, .ref a_wri, .ref a_per, .ref a_tho, .ref a_aft])), (h_net, .inr (1, [.ref h_ends, .int nc, .int sc, .int br, .int so, .int lo])), (h_ends, .inl (cI, 24, .inl ends)), (h_t, .inl (cI, 24, .inl ft)), (h_g, .inl (cI, 7, .inl fg))] H := by rw [hHe]; exact hP
  have hS : va_S A s.heap H locs := by rw [hHe, hLe]; exact hS
  have hW0 : ∀ QQ : State → Prop, W p l e (headSpec wsL_builds rmL_builds).room s m (([.ref h_x, .int p1, .ref h_t, .ref h_g] : List Value).toArray) below meth c H locs 0 0 QQ (F0 m 0 ls []) → W p l e (headSpec wsL_builds rmL_builds).room s m (([.ref h_x, .int p1, .ref h_t, .ref h_g] : List Value).toArray) below meth c s.heap [] 0 0 QQ (F0 m 0 ls []) := by rw [hHe, hLe]; exact fun _ h => h
  refine hW0 _ ?_
  clear hW0
  unfold fL_builds at h
  refine lv_aload_n hx hb dL_builds_0 rfl (lv_at hl 3 rfl) ?_
  refine lv_iconst (v := 0) hx hb dL_builds_1 (by decide) ?_
  obtain ⟨hi1, h⟩ := gin_e h
  refine va_iald hx hb hK hP 4 0 rfl rfl hi1 dL_builds_2 ?_
  refine lv_iconst (v := 2) hx hb dL_builds_3 (by decide) ?_
  refine jn0_e (∀ (H : Heap) (locs : List Loc) (ls : Array Slot), va_P D vwCl [(h_x, .inr (4, [.ref h_net, .ref a_now, .ref a_don, .ref a_wri, .ref a_per, .ref a_tho, .ref a_aft])), (h_net, .inr (1, [.ref h_ends, .int nc, .int sc, .int br, .int so, .int lo])), (h_ends, .inl (cI, 24, .inl ends)), (h_t, .inl (cI, 24, .inl ft)), (h_g, .inl (cI, 7, .inl fg))] H → va_D A [(h_x, .inr (4, [.ref h_net, .ref a_now, .ref a_don, .ref a_wri, .ref a_per, .ref a_tho, .ref a_aft])), (h_net, .inr (1, [.ref h_ends, .int nc, .int sc, .int br, .int so, .int lo])), (h_ends, .inl (cI, 24, .inl ends)), (h_t, .inl (cI, 24, .inl ft)), (h_g, .inl (cI, 7, .inl fg))] → va_S A s.heap H locs → lv_has ls 7 [(0, .ref h_x), (1, .int p1), (2, .ref h_t), (3, .ref h_g)] → W p l e (headSpec wsL_builds rmL_builds).room s m (([.ref h_x, .int p1, .ref h_t, .ref h_g] : List Value).toArray) below meth c H locs (0) (0) QQ (F0 m 22 ls [])) h (fun h H locs ls hP hD hS hl => ?_) (fun g22_2 hg22_3 h => ?_)
  · refine lv_iload_n hx hb dL_builds_22 rfl (lv_at hl 1 rfl) ?_
    refine lv_bipush (v := 24) hx hb dL_builds_23 (by decide) ?_
    refine lv_iand hx hb dL_builds_25 ?_
    refine jn1_e (fun (y4 : Int32) => ∀ (H : Heap) (locs : List Loc) (ls : Array Slot), va_P D vwCl [(h_x, .inr (4, [.ref h_net, .ref a_now, .ref a_don, .ref a_wri, .ref a_per, .ref a_tho, .ref a_aft])), (h_net, .inr (1, [.ref h_ends, .int nc, .int sc, .int br, .int so, .int lo])), (h_ends, .inl (cI, 24, .inl ends)), (h_t, .inl (cI, 24, .inl ft)), (h_g, .inl (cI, 7, .inl fg))] H → va_D A [(h_x, .inr (4, [.ref h_net, .ref a_now, .ref a_don, .ref a_wri, .ref a_per, .ref a_tho, .ref a_aft])), (h_net, .inr (1, [.ref h_ends, .int nc, .int sc, .int br, .int so, .int lo])), (h_ends, .inl (cI, 24, .inl ends)), (h_t, .inl (cI, 24, .inl ft)), (h_g, .inl (cI, 7, .inl fg))] → va_S A s.heap H locs → lv_has ls 7 [(0, .ref h_x), (1, .int p1), (2, .ref h_t), (3, .ref h_g)] → W p l e (headSpec wsL_builds rmL_builds).room s m (([.ref h_x, .int p1, .ref h_t, .ref h_g] : List Value).toArray) below meth c H locs (0) (0) QQ (F0 m 34 ls [.int y4])) h (fun y4 h H locs ls hP hD hS hl => ?_) (fun g34_5 hg34_6 h => ?_)
    · refine lv_istore (lv' := [(4, .int y4), (0, .ref h_x), (1, .int p1), (2, .ref h_t), (3, .ref h_g)]) hx hb dL_builds_34 hl (by decide) rfl (fun ls hl => ?_)
      refine lv_iload_n hx hb dL_builds_36 rfl (lv_at hl 2 rfl) ?_
      refine lv_bipush (v := 96) hx hb dL_builds_37 (by decide) ?_
      refine lv_iand hx hb dL_builds_39 ?_
      refine jn1_e (fun (y7 : Int32) => ∀ (H : Heap) (locs : List Loc) (ls : Array Slot), va_P D vwCl [(h_x, .inr (4, [.ref h_net, .ref a_now, .ref a_don, .ref a_wri, .ref a_per, .ref a_tho, .ref a_aft])), (h_net, .inr (1, [.ref h_ends, .int nc, .int sc, .int br, .int so, .int lo])), (h_ends, .inl (cI, 24, .inl ends)), (h_t, .inl (cI, 24, .inl ft)), (h_g, .inl (cI, 7, .inl fg))] H → va_D A [(h_x, .inr (4, [.ref h_net, .ref a_now, .ref a_don, .ref a_wri, .ref a_per, .ref a_tho, .ref a_aft])), (h_net, .inr (1, [.ref h_ends, .int nc, .int sc, .int br, .int so, .int lo])), (h_ends, .inl (cI, 24, .inl ends)), (h_t, .inl (cI, 24, .inl ft)), (h_g, .inl (cI, 7, .inl fg))] → va_S A s.heap H locs → lv_has ls 7 [(4, .int y4), (0, .ref h_x), (1, .int p1), (2, .ref h_t), (3, .ref h_g)] → W p l e (headSpec wsL_builds rmL_builds).room s m (([.ref h_x, .int p1, .ref h_t, .ref h_g] : List Value).toArray) below meth c H locs (0) (0) QQ (F0 m 48 ls [.int y7])) h (fun y7 h H locs ls hP hD hS hl => ?_) (fun g48_8 hg48_9 h => ?_)
      · refine lv_istore (lv' := [(5, .int y7), (4, .int y4), (0, .ref h_x), (1, .int p1), (2, .ref h_t), (3, .ref h_g)]) hx hb dL_builds_48 hl (by decide) rfl (fun ls hl => ?_)
        refine lv_aload_n hx hb dL_builds_50 rfl (lv_at hl 5 rfl) ?_
        refine lv_iconst (v := 2) hx hb dL_builds_51 (by decide) ?_
        refine lv_dup2_11 hx hb dL_builds_52 rfl rfl ?_
        obtain ⟨hi10, h⟩ := gin_e h
        refine va_iald hx hb hK hP 4 0 rfl rfl hi10 dL_builds_53 ?_
        refine lv_iload hx hb dL_builds_54 (lv_at hl 1 rfl) ?_
        refine jn1_e (fun (y11 : Int32) => ∀ (H : Heap) (locs : List Loc) (ls : Array Slot), va_P D vwCl [(h_x, .inr (4, [.ref h_net, .ref a_now, .ref a_don, .ref a_wri, .ref a_per, .ref a_tho, .ref a_aft])), (h_net, .inr (1, [.ref h_ends, .int nc, .int sc, .int br, .int so, .int lo])), (h_ends, .inl (cI, 24, .inl ends)), (h_t, .inl (cI, 24, .inl ft)), (h_g, .inl (cI, 7, .inl fg))] H → va_D A [(h_x, .inr (4, [.ref h_net, .ref a_now, .ref a_don, .ref a_wri, .ref a_per, .ref a_tho, .ref a_aft])), (h_net, .inr (1, [.ref h_ends, .int nc, .int sc, .int br, .int so, .int lo])), (h_ends, .inl (cI, 24, .inl ends)), (h_t, .inl (cI, 24, .inl ft)), (h_g, .inl (cI, 7, .inl fg))] → va_S A s.heap H locs → lv_has ls 7 [(5, .int y7), (4, .int y4), (0, .ref h_x), (1, .int p1), (2, .ref h_t), (3, .ref h_g)] → W p l e (headSpec wsL_builds rmL_builds).room s m (([.ref h_x, .int p1, .ref h_t, .ref h_g] : List Value).toArray) below meth c H locs (0) (0) QQ (F0 m 68 ls [.int y11, .int (fg (2 : Int32).toNatClampNeg), .int 2, .ref h_g])) h (fun y11 h H locs ls hP hD hS hl => ?_) (fun g68_12 hg68_13 h => ?_)
        · refine lv_ior hx hb dL_builds_68 ?_
          obtain ⟨hi14, h⟩ := gin_e h
          refine va_iast hx hb hK hP hD hS 4 0 rfl rfl hi14 dL_builds_69 (fun H locs hP hD hS => ?_)
          have hP : va_P D vwCl [(h_x, .inr (4, [.ref h_net, .ref a_now, .ref a_don, .ref a_wri, .ref a_per, .ref a_tho, .ref a_aft])), (h_net, .inr (1, [.ref h_ends, .int nc, .int sc, .int br, .int so, .int lo])), (h_ends, .inl (cI, 24, .inl ends)), (h_t, .inl (cI, 24, .inl ft)), (h_g, .inl (cI, 7, .inl (upd fg (2 : Int32).toNatClampNeg ((fg (2 : Int32).toNatClampNeg) ||| y11))))] H := hP
          have hD : va_D A [(h_x, .inr (4, [.ref h_net, .ref a_now, .ref a_don, .ref a_wri, .ref a_per, .ref a_tho, .ref a_aft])), (h_net, .inr (1, [.ref h_ends, .int nc, .int sc, .int br, .int so, .int lo])), (h_ends, .inl (cI, 24, .inl ends)), (h_t, .inl (cI, 24, .inl ft)), (h_g, .inl (cI, 7, .inl (upd fg (2 : Int32).toNatClampNeg ((fg (2 : Int32).toNatClampNeg) ||| y11))))] := hD
          refine lv_aload_n hx hb dL_builds_70 rfl (lv_at hl 5 rfl) ?_
          refine lv_iconst (v := 3) hx hb dL_builds_71 (by decide) ?_
          refine lv_dup2_11 hx hb dL_builds_72 rfl rfl ?_
          obtain ⟨hi15, h⟩ := gin_e h
          refine va_iald hx hb hK hP 4 0 rfl rfl hi15 dL_builds_73 ?_
          refine lv_iload hx hb dL_builds_74 (lv_at hl 0 rfl) ?_
          refine jn1_e (fun (y16 : Int32) => ∀ (H : Heap) (locs : List Loc) (ls : Array Slot), va_P D vwCl [(h_x, .inr (4, [.ref h_net, .ref a_now, .ref a_don, .ref a_wri, .ref a_per, .ref a_tho, .ref a_aft])), (h_net, .inr (1, [.ref h_ends, .int nc, .int sc, .int br, .int so, .int lo])), (h_ends, .inl (cI, 24, .inl ends)), (h_t, .inl (cI, 24, .inl ft)), (h_g, .inl (cI, 7, .inl (upd fg (2 : Int32).toNatClampNeg ((fg (2 : Int32).toNatClampNeg) ||| y11))))] H → va_D A [(h_x, .inr (4, [.ref h_net, .ref a_now, .ref a_don, .ref a_wri, .ref a_per, .ref a_tho, .ref a_aft])), (h_net, .inr (1, [.ref h_ends, .int nc, .int sc, .int br, .int so, .int lo])), (h_ends, .inl (cI, 24, .inl ends)), (h_t, .inl (cI, 24, .inl ft)), (h_g, .inl (cI, 7, .inl (upd fg (2 : Int32).toNatClampNeg ((fg (2 : Int32).toNatClampNeg) ||| y11))))] → va_S A s.heap H locs → lv_has ls 7 [(5, .int y7), (4, .int y4), (0, .ref h_x), (1, .int p1), (2, .ref h_t), (3, .ref h_g)] → W p l e (headSpec wsL_builds rmL_builds).room s m (([.ref h_x, .int p1, .ref h_t, .ref h_g] : List Value).toArray) below meth c H locs (0) (0) QQ (F0 m 88 ls [.int y16, .int ((upd fg (2 : Int32).toNatClampNeg ((fg (2 : Int32).toNatClampNeg) ||| y11)) (3 : Int32).toNatClampNeg), .int 3, .ref h_g])) h (fun y16 h H locs ls hP hD hS hl => ?_) (fun g88_17 hg88_18 h => ?_)
          · refine lv_ior hx hb dL_builds_88 ?_
            obtain ⟨hi19, h⟩ := gin_e h
            refine va_iast hx hb hK hP hD hS 4 0 rfl rfl hi19 dL_builds_89 (fun H locs hP hD hS => ?_)
            have hP : va_P D vwCl [(h_x, .inr (4, [.ref h_net, .ref a_now, .ref a_don, .ref a_wri, .ref a_per, .ref a_tho, .ref a_aft])), (h_net, .inr (1, [.ref h_ends, .int nc, .int sc, .int br, .int so, .int lo])), (h_ends, .inl (cI, 24, .inl ends)), (h_t, .inl (cI, 24, .inl ft)), (h_g, .inl (cI, 7, .inl (upd (upd fg (2 : Int32).toNatClampNeg ((fg (2 : Int32).toNatClampNeg) ||| y11)) (3 : Int32).toNatClampNeg (((upd fg (2 : Int32).toNatClampNeg ((fg (2 : Int32).toNatClampNeg) ||| y11)) (3 : Int32).toNatClampNeg) ||| y16))))] H := hP
            have hD : va_D A [(h_x, .inr (4, [.ref h_net, .ref a_now, .ref a_don, .ref a_wri, .ref a_per, .ref a_tho, .ref a_aft])), (h_net, .inr (1, [.ref h_ends, .int nc, .int sc, .int br, .int so, .int lo])), (h_ends, .inl (cI, 24, .inl ends)), (h_t, .inl (cI, 24, .inl ft)), (h_g, .inl (cI, 7, .inl (upd (upd fg (2 : Int32).toNatClampNeg ((fg (2 : Int32).toNatClampNeg) ||| y11)) (3 : Int32).toNatClampNeg (((upd fg (2 : Int32).toNatClampNeg ((fg (2 : Int32).toNatClampNeg) ||| y11)) (3 : Int32).toNatClampNeg) ||| y16))))] := hD
            refine lv_aload_n hx hb dL_builds_90 rfl (lv_at hl 5 rfl) ?_
            refine lv_iconst (v := 0) hx hb dL_builds_91 (by decide) ?_
            refine lv_dup2_11 hx hb dL_builds_92 rfl rfl ?_
            obtain ⟨hi20, h⟩ := gin_e h
            refine va_iald hx hb hK hP 4 0 rfl rfl hi20 dL_builds_93 ?_
            refine lv_iconst (v := 1) hx hb dL_builds_94 (by decide) ?_
            refine lv_iadd hx hb dL_builds_95 ?_
            obtain ⟨hi21, h⟩ := gin_e h
            refine va_iast hx hb hK hP hD hS 4 0 rfl rfl hi21 dL_builds_96 (fun H locs hP hD hS => ?_)
            have hP : va_P D vwCl [(h_x, .inr (4, [.ref h_net, .ref a_now, .ref a_don, .ref a_wri, .ref a_per, .ref a_tho, .ref a_aft])), (h_net, .inr (1, [.ref h_ends, .int nc, .int sc, .int br, .int so, .int lo])), (h_ends, .inl (cI, 24, .inl ends)), (h_t, .inl (cI, 24, .inl ft)), (h_g, .inl (cI, 7, .inl (upd (upd (upd fg (2 : Int32).toNatClampNeg ((fg (2 : Int32).toNatClampNeg) ||| y11)) (3 : Int32).toNatClampNeg (((upd fg (2 : Int32).toNatClampNeg ((fg (2 : Int32).toNatClampNeg) ||| y11)) (3 : Int32).toNatClampNeg) ||| y16)) (0 : Int32).toNatClampNeg (((upd (upd fg (2 : Int32).toNatClampNeg ((fg (2 : Int32).toNatClampNeg) ||| y11)) (3 : Int32).toNatClampNeg (((upd fg (2 : Int32).toNatClampNeg ((fg (2 : Int32).toNatClampNeg) ||| y11)) (3 : Int32).toNatClampNeg) ||| y16)) (0 : Int32).toNatClampNeg) + 1))))] H := hP
            have hD : va_D A [(h_x, .inr (4, [.ref h_net, .ref a_now, .ref a_don, .ref a_wri, .ref a_per, .ref a_tho, .ref a_aft])), (h_net, .inr (1, [.ref h_ends, .int nc, .int sc, .int br, .int so, .int lo])), (h_ends, .inl (cI, 24, .inl ends)), (h_t, .inl (cI, 24, .inl ft)), (h_g, .inl (cI, 7, .inl (upd (upd (upd fg (2 : Int32).toNatClampNeg ((fg (2 : Int32).toNatClampNeg) ||| y11)) (3 : Int32).toNatClampNeg (((upd fg (2 : Int32).toNatClampNeg ((fg (2 : Int32).toNatClampNeg) ||| y11)) (3 : Int32).toNatClampNeg) ||| y16)) (0 : Int32).toNatClampNeg (((upd (upd fg (2 : Int32).toNatClampNeg ((fg (2 : Int32).toNatClampNeg) ||| y11)) (3 : Int32).toNatClampNeg (((upd fg (2 : Int32).toNatClampNeg ((fg (2 : Int32).toNatClampNeg) ||| y11)) (3 : Int32).toNatClampNeg) ||| y16)) (0 : Int32).toNatClampNeg) + 1))))] := hD
            refine lv_aload_n hx hb dL_builds_97 rfl (lv_at hl 2 rfl) ?_
            refine lv_iload hx hb dL_builds_98 (lv_at hl 1 rfl) ?_
            refine lv_iload hx hb dL_builds_100 (lv_at hl 0 rfl) ?_
            obtain ⟨k22, w23, w24, w25, hq26, h⟩ := bd4_e h
            refine zz_hS (As := [.ref h_x, .int y4, .int y7]) (wr := [(h_ends, .inl (cI, 24, .inl ends)), (h_t, .inl (cI, 24, .inl ft)), (h_g, .inl (cI, 7, .inl (upd (upd (upd fg (2 : Int32).toNatClampNeg ((fg (2 : Int32).toNatClampNeg) ||| y11)) (3 : Int32).toNatClampNeg (((upd fg (2 : Int32).toNatClampNeg ((fg (2 : Int32).toNatClampNeg) ||| y11)) (3 : Int32).toNatClampNeg) ||| y16)) (0 : Int32).toNatClampNeg (((upd (upd fg (2 : Int32).toNatClampNeg ((fg (2 : Int32).toNatClampNeg) ||| y11)) (3 : Int32).toNatClampNeg (((upd fg (2 : Int32).toNatClampNeg ((fg (2 : Int32).toNatClampNeg) ||| y11)) (3 : Int32).toNatClampNeg) ||| y16)) (0 : Int32).toNatClampNeg) + 1))))]) (w1 := [(h_x, .inr (4, [.ref h_net, .ref a_now, .ref a_don, .ref a_wri, .ref a_per, .ref a_tho, .ref a_aft])), (h_net, .inr (1, [.ref h_ends, .int w23, .int sc, .int br, .int w24, .int w25]))]) (wt' := [(h_x, .inr (4, [.ref h_net, .ref a_now, .ref a_don, .ref a_wri, .ref a_per, .ref a_tho, .ref a_aft])), (h_net, .inr (1, [.ref h_ends, .int w23, .int sc, .int br, .int w24, .int w25])), (h_ends, .inl (cI, 24, .inl ends)), (h_t, .inl (cI, 24, .inl ft)), (h_g, .inl (cI, 7, .inl (upd (upd (upd fg (2 : Int32).toNatClampNeg ((fg (2 : Int32).toNatClampNeg) ||| y11)) (3 : Int32).toNatClampNeg (((upd fg (2 : Int32).toNatClampNeg ((fg (2 : Int32).toNatClampNeg) ||| y11)) (3 : Int32).toNatClampNeg) ||| y16)) (0 : Int32).toNatClampNeg (((upd (upd fg (2 : Int32).toNatClampNeg ((fg (2 : Int32).toNatClampNeg) ||| y11)) (3 : Int32).toNatClampNeg (((upd fg (2 : Int32).toNatClampNeg ((fg (2 : Int32).toNatClampNeg) ||| y11)) (3 : Int32).toNatClampNeg) ||| y16)) (0 : Int32).toNatClampNeg) + 1))))]) (wc := [(h_x, .inr (4, [.ref h_net, .ref a_now, .ref a_don, .ref a_wri, .ref a_per, .ref a_tho, .ref a_aft])), (h_net, .inr (1, [.ref h_ends, .int nc, .int sc, .int br, .int so, .int lo]))]) (rv := (some (.int k22))) ⟨hx, hb, hml, hown, hts⟩ (kL_addNode l hl0 D cI cZ cL H.size h_x a_now a_don a_wri a_per a_tho a_aft h_net h_ends nc sc br so lo y4 y7 N hq26) (vx_cwSW 3 hts gL_builds_L_addNode rfl rfl rfl (by decide +kernel) ⟨Nat.le_of_ble_eq_true rfl, Nat.le_of_ble_eq_true rfl⟩) hP hD hS hA hKK hKS hKZ hKX [0, 1] [2, 3, 4] [3, 4, 0, 1, 2] rfl rfl (by decide) (by decide) rfl (by decide) (by decide) rfl hl.1 rfl (Nat.le_of_ble_eq_true rfl) dL_builds_102 ⟨by show 0 + 1 ≤ 16; omega, by show 0 + 6 ≤ 96; omega⟩ (fun H locs hP hD hS hz9 => ?_)
            show W p l e _ s m _ below meth c H locs _ _ QQ (F0 m 105 ls (.int k22 :: []))
            refine lv_aload_n hx hb dL_builds_105 rfl (lv_at hl 5 rfl) ?_
            refine lv_iconst (v := 0) hx hb dL_builds_106 (by decide) ?_
            obtain ⟨hi27, h⟩ := gin_e h
            refine va_iald hx hb hK hP 4 0 rfl rfl hi27 dL_builds_107 ?_
            refine lv_iconst (v := 1) hx hb dL_builds_108 (by decide) ?_
            refine lv_isub hx hb dL_builds_109 ?_
            refine lv_icmp_ne (tgt := 117) hx hb dL_builds_110 (by decide) (fun c28 => ?_) (fun c28 => ?_)
            · have h := it_f h c28
              cases h
            · have h := it_t h c28
              refine lv_iconst (v := 1) hx hb dL_builds_113 (by decide) ?_
              refine lv_goto (tgt := 118) hx hb dL_builds_114 (by decide) ?_
              cases h
              rw [hQQ]
              refine W.widen (k := 16) (n := 96) (by omega) (by omega) ?_
              exact W.zret (v := 1) hx hb hr (by decide) (fun t ht hW => ⟨rfl, by rw [ht]; exact hP, hD, hS.F ht⟩) hS.2.2 dL_builds_118
          · refine lv_if_eq (tgt := 87) hx hb dL_builds_76 (by decide) (fun c29 => ?_) (fun c29 => ?_)
            · have h := it_t h c29
              refine lv_iconst (v := 0) hx hb dL_builds_87 (by decide) ?_
              exact hg88_18 0 h H locs ls hP hD hS (lv_sub hl [0, 1, 2, 3, 4, 5] rfl)
            · have h := it_f h c29
              refine lv_iconst (v := 1) hx hb dL_builds_79 (by decide) ?_
              refine lv_aload_n hx hb dL_builds_80 rfl (lv_at hl 5 rfl) ?_
              refine lv_iconst (v := 0) hx hb dL_builds_81 (by decide) ?_
              obtain ⟨hi30, h⟩ := gin_e h
              refine va_iald hx hb hK hP 4 0 rfl rfl hi30 dL_builds_82 ?_
              refine lv_ishl hx hb dL_builds_83 ?_
              refine lv_goto (tgt := 88) hx hb dL_builds_84 (by decide) ?_
              exact hg88_18 ((1 : Int32) <<< (((upd fg (2 : Int32).toNatClampNeg ((fg (2 : Int32).toNatClampNeg) ||| y11)) (0 : Int32).toNatClampNeg) &&& 31)) h H locs ls hP hD hS (lv_sub hl [0, 1, 2, 3, 4, 5] rfl)
        · refine lv_if_eq (tgt := 67) hx hb dL_builds_56 (by decide) (fun c31 => ?_) (fun c31 => ?_)
          · have h := it_t h c31
            refine lv_iconst (v := 0) hx hb dL_builds_67 (by decide) ?_
            exact hg68_13 0 h H locs ls hP hD hS (lv_sub hl [0, 1, 2, 3, 4, 5] rfl)
          · have h := it_f h c31
            refine lv_iconst (v := 1) hx hb dL_builds_59 (by decide) ?_
            refine lv_aload_n hx hb dL_builds_60 rfl (lv_at hl 5 rfl) ?_
            refine lv_iconst (v := 0) hx hb dL_builds_61 (by decide) ?_
            obtain ⟨hi32, h⟩ := gin_e h
            refine va_iald hx hb hK hP 4 0 rfl rfl hi32 dL_builds_62 ?_
            refine lv_ishl hx hb dL_builds_63 ?_
            refine lv_goto (tgt := 68) hx hb dL_builds_64 (by decide) ?_
            exact hg68_13 ((1 : Int32) <<< ((fg (0 : Int32).toNatClampNeg) &&& 31)) h H locs ls hP hD hS (lv_sub hl [0, 1, 2, 3, 4, 5] rfl)
      · refine lv_if_ne (tgt := 47) hx hb dL_builds_40 (by decide) (fun c33 => ?_) (fun c33 => ?_)
        · have h := it_f h c33
          refine lv_iconst (v := 0) hx hb dL_builds_47 (by decide) ?_
          exact hg48_9 0 h H locs ls hP hD hS (lv_sub hl [0, 1, 2, 3, 4] rfl)
        · have h := it_t h c33
          refine lv_iconst (v := 1) hx hb dL_builds_43 (by decide) ?_
          refine lv_goto (tgt := 48) hx hb dL_builds_44 (by decide) ?_
          exact hg48_9 1 h H locs ls hP hD hS (lv_sub hl [0, 1, 2, 3, 4] rfl)
    · refine lv_if_ne (tgt := 33) hx hb dL_builds_26 (by decide) (fun c34 => ?_) (fun c34 => ?_)
      · have h := it_f h c34
        refine lv_iconst (v := 0) hx hb dL_builds_33 (by decide) ?_
        exact hg34_6 0 h H locs ls hP hD hS (lv_sub hl [0, 1, 2, 3] rfl)
      · have h := it_t h c34
        refine lv_iconst (v := 1) hx hb dL_builds_29 (by decide) ?_
        refine lv_goto (tgt := 34) hx hb dL_builds_30 (by decide) ?_
        exact hg34_6 1 h H locs ls hP hD hS (lv_sub hl [0, 1, 2, 3] rfl)
  · refine lv_icmp_lt (tgt := 22) hx hb dL_builds_4 (by decide) (fun c35 => ?_) (fun c35 => ?_)
    · have h := it_t h c35
      exact hg22_3 h H locs ls hP hD hS (lv_sub hl [0, 1, 2, 3] rfl)
    · have h := it_f h c35
      refine lv_iload_n hx hb dL_builds_7 rfl (lv_at hl 1 rfl) ?_
      refine lv_bipush (v := 6) hx hb dL_builds_8 (by decide) ?_
      refine lv_iand hx hb dL_builds_10 ?_
      refine jn0_e (∀ (H : Heap) (locs : List Loc) (ls : Array Slot), va_P D vwCl [(h_x, .inr (4, [.ref h_net, .ref a_now, .ref a_don, .ref a_wri, .ref a_per, .ref a_tho, .ref a_aft])), (h_net, .inr (1, [.ref h_ends, .int nc, .int sc, .int br, .int so, .int lo])), (h_ends, .inl (cI, 24, .inl ends)), (h_t, .inl (cI, 24, .inl ft)), (h_g, .inl (cI, 7, .inl fg))] H → va_D A [(h_x, .inr (4, [.ref h_net, .ref a_now, .ref a_don, .ref a_wri, .ref a_per, .ref a_tho, .ref a_aft])), (h_net, .inr (1, [.ref h_ends, .int nc, .int sc, .int br, .int so, .int lo])), (h_ends, .inl (cI, 24, .inl ends)), (h_t, .inl (cI, 24, .inl ft)), (h_g, .inl (cI, 7, .inl fg))] → va_S A s.heap H locs → lv_has ls 7 [(0, .ref h_x), (1, .int p1), (2, .ref h_t), (3, .ref h_g)] → W p l e (headSpec wsL_builds rmL_builds).room s m (([.ref h_x, .int p1, .ref h_t, .ref h_g] : List Value).toArray) below meth c H locs (0) (0) QQ (F0 m 119 ls [])) h (fun h H locs ls hP hD hS hl => ?_) (fun g119_36 hg119_37 h => ?_)
      · refine lv_iload_n hx hb dL_builds_119 rfl (lv_at hl 1 rfl) ?_
        refine lv_iconst (v := 3) hx hb dL_builds_120 (by decide) ?_
        refine lv_ishr hx hb dL_builds_121 ?_
        refine lv_aload_n hx hb dL_builds_122 rfl (lv_at hl 3 rfl) ?_
        refine lv_iconst (v := 0) hx hb dL_builds_123 (by decide) ?_
        obtain ⟨hi38, h⟩ := gin_e h
        refine va_iald hx hb hK hP 4 0 rfl rfl hi38 dL_builds_124 ?_
        obtain ⟨v39, hq40, h⟩ := bd1_e h
        refine zz_cS (As := [.int (p1 >>> (3 &&& 31)), .int (fg (0 : Int32).toNatClampNeg)]) ⟨hx, hb, hml, hown, hts⟩ (kL_low l D cI cZ cL (p1 >>> (3 &&& 31)) (fg (0 : Int32).toNatClampNeg) N hq40) (va_cwS 2 hts gL_builds_L_low rfl rfl rfl (by decide +kernel) ⟨Nat.le_of_ble_eq_true rfl, Nat.le_of_ble_eq_true rfl⟩) (hP.sub (ws' := []) [] rfl) hKK rfl hl.1 rfl (Nat.le_of_ble_eq_true rfl) dL_builds_125 ⟨by show 0 ≤ 16; omega, by show 0 ≤ 96; omega⟩ ?_
        refine lv_istore (lv' := [(4, .int v39), (0, .ref h_x), (1, .int p1), (2, .ref h_t), (3, .ref h_g)]) hx hb dL_builds_128 hl (by decide) rfl (fun ls hl => ?_)
        refine lv_iload_n hx hb dL_builds_130 rfl (lv_at hl 2 rfl) ?_
        refine lv_bipush (v := 7) hx hb dL_builds_131 (by decide) ?_
        refine lv_ishr hx hb dL_builds_133 ?_
        refine lv_aload_n hx hb dL_builds_134 rfl (lv_at hl 4 rfl) ?_
        refine lv_iconst (v := 0) hx hb dL_builds_135 (by decide) ?_
        obtain ⟨hi41, h⟩ := gin_e h
        refine va_iald hx hb hK hP 4 0 rfl rfl hi41 dL_builds_136 ?_
        obtain ⟨v42, hq43, h⟩ := bd1_e h
        refine zz_cS (As := [.int (p1 >>> (7 &&& 31)), .int (fg (0 : Int32).toNatClampNeg)]) ⟨hx, hb, hml, hown, hts⟩ (kL_low l D cI cZ cL (p1 >>> (7 &&& 31)) (fg (0 : Int32).toNatClampNeg) N hq43) (va_cwS 2 hts gL_builds_L_low rfl rfl rfl (by decide +kernel) ⟨Nat.le_of_ble_eq_true rfl, Nat.le_of_ble_eq_true rfl⟩) (hP.sub (ws' := []) [] rfl) hKK rfl hl.1 rfl (Nat.le_of_ble_eq_true rfl) dL_builds_137 ⟨by show 0 ≤ 16; omega, by show 0 ≤ 96; omega⟩ ?_
        refine lv_istore (lv' := [(5, .int v42), (4, .int v39), (0, .ref h_x), (1, .int p1), (2, .ref h_t), (3, .ref h_g)]) hx hb dL_builds_140 hl (by decide) rfl (fun ls hl => ?_)
        refine lv_iload_n hx hb dL_builds_142 rfl (lv_at hl 3 rfl) ?_
        refine lv_sipush (v := 12288) hx hb dL_builds_143 (by decide) ?_
        refine lv_iand hx hb dL_builds_146 ?_
        refine jn1_e (fun (y44 : Int32) => ∀ (H : Heap) (locs : List Loc) (ls : Array Slot), va_P D vwCl [(h_x, .inr (4, [.ref h_net, .ref a_now, .ref a_don, .ref a_wri, .ref a_per, .ref a_tho, .ref a_aft])), (h_net, .inr (1, [.ref h_ends, .int nc, .int sc, .int br, .int so, .int lo])), (h_ends, .inl (cI, 24, .inl ends)), (h_t, .inl (cI, 24, .inl ft)), (h_g, .inl (cI, 7, .inl fg))] H → va_D A [(h_x, .inr (4, [.ref h_net, .ref a_now, .ref a_don, .ref a_wri, .ref a_per, .ref a_tho, .ref a_aft])), (h_net, .inr (1, [.ref h_ends, .int nc, .int sc, .int br, .int so, .int lo])), (h_ends, .inl (cI, 24, .inl ends)), (h_t, .inl (cI, 24, .inl ft)), (h_g, .inl (cI, 7, .inl fg))] → va_S A s.heap H locs → lv_has ls 7 [(5, .int v42), (4, .int v39), (0, .ref h_x), (1, .int p1), (2, .ref h_t), (3, .ref h_g)] → W p l e (headSpec wsL_builds rmL_builds).room s m (([.ref h_x, .int p1, .ref h_t, .ref h_g] : List Value).toArray) below meth c H locs (0) (0) QQ (F0 m 155 ls [.int y44])) h (fun y44 h H locs ls hP hD hS hl => ?_) (fun g155_45 hg155_46 h => ?_)
        · refine lv_istore (lv' := [(6, .int y44), (5, .int v42), (4, .int v39), (0, .ref h_x), (1, .int p1), (2, .ref h_t), (3, .ref h_g)]) hx hb dL_builds_155 hl (by decide) rfl (fun ls hl => ?_)
          refine lv_aload_n hx hb dL_builds_157 rfl (lv_at hl 3 rfl) ?_
          refine lv_iload hx hb dL_builds_158 (lv_at hl 2 rfl) ?_
          refine lv_aload_n hx hb dL_builds_160 rfl (lv_at hl 6 rfl) ?_
          refine lv_iconst (v := 0) hx hb dL_builds_161 (by decide) ?_
          obtain ⟨hi47, h⟩ := gin_e h
          refine va_iald hx hb hK hP 4 0 rfl rfl hi47 dL_builds_162 ?_
          refine lv_iload hx hb dL_builds_163 (lv_at hl 0 rfl) ?_
          obtain ⟨k48, w49, w50, w51, hq52, h⟩ := bd4_e h
          refine zz_hS (As := [.ref h_x, .int v39, .int (fg (0 : Int32).toNatClampNeg), .int y44]) (wr := [(h_t, .inl (cI, 24, .inl ft)), (h_g, .inl (cI, 7, .inl fg))]) (w1 := [(h_x, .inr (4, [.ref h_net, .ref a_now, .ref a_don, .ref a_wri, .ref a_per, .ref a_tho, .ref a_aft])), (h_net, .inr (1, [.ref h_ends, .int nc, .int w50, .int w51, .int so, .int lo])), (h_ends, .inl (cI, 24, .inl w49))]) (wt' := [(h_x, .inr (4, [.ref h_net, .ref a_now, .ref a_don, .ref a_wri, .ref a_per, .ref a_tho, .ref a_aft])), (h_net, .inr (1, [.ref h_ends, .int nc, .int w50, .int w51, .int so, .int lo])), (h_ends, .inl (cI, 24, .inl w49)), (h_t, .inl (cI, 24, .inl ft)), (h_g, .inl (cI, 7, .inl fg))]) (wc := [(h_x, .inr (4, [.ref h_net, .ref a_now, .ref a_don, .ref a_wri, .ref a_per, .ref a_tho, .ref a_aft])), (h_net, .inr (1, [.ref h_ends, .int nc, .int sc, .int br, .int so, .int lo])), (h_ends, .inl (cI, 24, .inl ends))]) (rv := (some (.int k48))) ⟨hx, hb, hml, hown, hts⟩ (kL_addSwitch l hl0 D cI cZ cL H.size h_x a_now a_don a_wri a_per a_tho a_aft h_net h_ends nc sc br so lo ends v39 (fg (0 : Int32).toNatClampNeg) y44 N hq52) (vx_cwSW 4 hts gL_builds_L_addSwitch rfl rfl rfl (by decide +kernel) ⟨Nat.le_of_ble_eq_true rfl, Nat.le_of_ble_eq_true rfl⟩) hP hD hS hA hKK hKS hKZ hKX [0, 1, 2] [3, 4] [2, 3, 4, 0, 1] rfl rfl (by decide) (by decide) rfl (by decide) (by decide) rfl hl.1 rfl (Nat.le_of_ble_eq_true rfl) dL_builds_165 ⟨by show 0 + 3 ≤ 16; omega, by show 0 + 18 ≤ 96; omega⟩ (fun H locs hP hD hS hz9 => ?_)
          show W p l e _ s m _ below meth c H locs _ _ QQ (F0 m 168 ls (.int k48 :: []))
          refine lv_bipush (v := (-72)) hx hb dL_builds_168 (by decide) ?_
          refine lv_icmp_ne (tgt := 187) hx hb dL_builds_170 (by decide) (fun c53 => ?_) (fun c53 => ?_)
          · have h := it_f h c53
            cases h
          · have h := it_t h c53
            refine lv_aload_n hx hb dL_builds_173 rfl (lv_at hl 3 rfl) ?_
            refine lv_iconst (v := (-1)) hx hb dL_builds_174 (by decide) ?_
            refine lv_iload hx hb dL_builds_175 (lv_at hl 2 rfl) ?_
            refine lv_iload hx hb dL_builds_177 (lv_at hl 0 rfl) ?_
            obtain ⟨k54, w55, w56, w57, hq58, h⟩ := bd4_e h
            refine zz_hS (As := [.ref h_x, .int (-1), .int v39, .int y44]) (wr := [(h_t, .inl (cI, 24, .inl ft)), (h_g, .inl (cI, 7, .inl fg))]) (w1 := [(h_x, .inr (4, [.ref h_net, .ref a_now, .ref a_don, .ref a_wri, .ref a_per, .ref a_tho, .ref a_aft])), (h_net, .inr (1, [.ref h_ends, .int nc, .int w56, .int w57, .int so, .int lo])), (h_ends, .inl (cI, 24, .inl w55))]) (wt' := [(h_x, .inr (4, [.ref h_net, .ref a_now, .ref a_don, .ref a_wri, .ref a_per, .ref a_tho, .ref a_aft])), (h_net, .inr (1, [.ref h_ends, .int nc, .int w56, .int w57, .int so, .int lo])), (h_ends, .inl (cI, 24, .inl w55)), (h_t, .inl (cI, 24, .inl ft)), (h_g, .inl (cI, 7, .inl fg))]) (wc := [(h_x, .inr (4, [.ref h_net, .ref a_now, .ref a_don, .ref a_wri, .ref a_per, .ref a_tho, .ref a_aft])), (h_net, .inr (1, [.ref h_ends, .int nc, .int w50, .int w51, .int so, .int lo])), (h_ends, .inl (cI, 24, .inl w49))]) (rv := (some (.int k54))) ⟨hx, hb, hml, hown, hts⟩ (kL_addSwitch l hl0 D cI cZ cL H.size h_x a_now a_don a_wri a_per a_tho a_aft h_net h_ends nc w50 w51 so lo w49 (-1) v39 y44 N hq58) (vx_cwSW 4 hts gL_builds_L_addSwitch rfl rfl rfl (by decide +kernel) ⟨Nat.le_of_ble_eq_true rfl, Nat.le_of_ble_eq_true rfl⟩) hP hD hS hA hKK hKS hKZ hKX [0, 1, 2] [3, 4] [2, 3, 4, 0, 1] rfl rfl (by decide) (by decide) rfl (by decide) (by decide) rfl hl.1 rfl (Nat.le_of_ble_eq_true rfl) dL_builds_179 ⟨by show 0 + 3 + 3 ≤ 16; omega, by show 0 + 18 + 18 ≤ 96; omega⟩ (fun H locs hP hD hS hz9 => ?_)
            show W p l e _ s m _ below meth c H locs _ _ QQ (F0 m 182 ls (.int k54 :: []))
            refine lv_bipush (v := (-72)) hx hb dL_builds_182 (by decide) ?_
            refine lv_icmp_eq (tgt := 189) hx hb dL_builds_184 (by decide) (fun c59 => ?_) (fun c59 => ?_)
            · have h := it_t h c59
              refine lv_iload hx hb dL_builds_189 (lv_at hl 2 rfl) ?_
              refine lv_iload hx hb dL_builds_191 (lv_at hl 1 rfl) ?_
              refine lv_icmp_ne (tgt := 217) hx hb dL_builds_193 (by decide) (fun c60 => ?_) (fun c60 => ?_)
              · have h := it_f h c60
                refine lv_aload_n hx hb dL_builds_217 rfl (lv_at hl 6 rfl) ?_
                refine lv_iconst (v := 1) hx hb dL_builds_218 (by decide) ?_
                obtain ⟨hi61, h⟩ := gin_e h
                refine va_iald hx hb hK hP 4 0 rfl rfl hi61 dL_builds_219 ?_
                refine lv_bipush (v := 24) hx hb dL_builds_220 (by decide) ?_
                refine lv_icmp_ne (tgt := 246) hx hb dL_builds_222 (by decide) (fun c62 => ?_) (fun c62 => ?_)
                · have h := it_f h c62
                  refine lv_aload_n hx hb dL_builds_246 rfl (lv_at hl 5 rfl) ?_
                  refine lv_aload_n hx hb dL_builds_247 rfl (lv_at hl 6 rfl) ?_
                  refine lv_iconst (v := 1) hx hb dL_builds_248 (by decide) ?_
                  obtain ⟨hi63, h⟩ := gin_e h
                  refine va_iald hx hb hK hP 4 0 rfl rfl hi63 dL_builds_249 ?_
                  refine lv_iload hx hb dL_builds_250 (lv_at hl 2 rfl) ?_
                  refine lv_bipush (v := 16) hx hb dL_builds_252 (by decide) ?_
                  refine lv_iload hx hb dL_builds_254 (lv_at hl 1 rfl) ?_
                  refine lv_imul hx hb dL_builds_256 ?_
                  refine lv_iadd hx hb dL_builds_257 ?_
                  refine lv_iload hx hb dL_builds_258 (lv_at hl 0 rfl) ?_
                  refine jn1_e (fun (y64 : Int32) => ∀ (H : Heap) (locs : List Loc) (ls : Array Slot), va_P D vwCl [(h_x, .inr (4, [.ref h_net, .ref a_now, .ref a_don, .ref a_wri, .ref a_per, .ref a_tho, .ref a_aft])), (h_net, .inr (1, [.ref h_ends, .int nc, .int w56, .int w57, .int so, .int lo])), (h_ends, .inl (cI, 24, .inl w55)), (h_t, .inl (cI, 24, .inl ft)), (h_g, .inl (cI, 7, .inl fg))] H → va_D A [(h_x, .inr (4, [.ref h_net, .ref a_now, .ref a_don, .ref a_wri, .ref a_per, .ref a_tho, .ref a_aft])), (h_net, .inr (1, [.ref h_ends, .int nc, .int w56, .int w57, .int so, .int lo])), (h_ends, .inl (cI, 24, .inl w55)), (h_t, .inl (cI, 24, .inl ft)), (h_g, .inl (cI, 7, .inl fg))] → va_S A s.heap H locs → lv_has ls 7 [(6, .int y44), (5, .int v42), (4, .int v39), (0, .ref h_x), (1, .int p1), (2, .ref h_t), (3, .ref h_g)] → W p l e (headSpec wsL_builds rmL_builds).room s m (([.ref h_x, .int p1, .ref h_t, .ref h_g] : List Value).toArray) below meth c H locs (0 + 3 + 3) (0 + 18 + 18) QQ (F0 m 270 ls [.int y64, .int (v39 + ((16 : Int32) * v42)), .int (fg (1 : Int32).toNatClampNeg), .ref h_t])) h (fun y64 h H locs ls hP hD hS hl => ?_) (fun g270_65 hg270_66 h => ?_)
                  · refine lv_iadd hx hb dL_builds_270 ?_
                    obtain ⟨hi67, h⟩ := gin_e h
                    refine va_iast hx hb hK hP hD hS 3 0 rfl rfl hi67 dL_builds_271 (fun H locs hP hD hS => ?_)
                    have hP : va_P D vwCl [(h_x, .inr (4, [.ref h_net, .ref a_now, .ref a_don, .ref a_wri, .ref a_per, .ref a_tho, .ref a_aft])), (h_net, .inr (1, [.ref h_ends, .int nc, .int w56, .int w57, .int so, .int lo])), (h_ends, .inl (cI, 24, .inl w55)), (h_t, .inl (cI, 24, .inl (upd ft (fg (1 : Int32).toNatClampNeg).toNatClampNeg ((v39 + ((16 : Int32) * v42)) + y64)))), (h_g, .inl (cI, 7, .inl fg))] H := hP
                    have hD : va_D A [(h_x, .inr (4, [.ref h_net, .ref a_now, .ref a_don, .ref a_wri, .ref a_per, .ref a_tho, .ref a_aft])), (h_net, .inr (1, [.ref h_ends, .int nc, .int w56, .int w57, .int so, .int lo])), (h_ends, .inl (cI, 24, .inl w55)), (h_t, .inl (cI, 24, .inl (upd ft (fg (1 : Int32).toNatClampNeg).toNatClampNeg ((v39 + ((16 : Int32) * v42)) + y64)))), (h_g, .inl (cI, 7, .inl fg))] := hD
                    refine lv_aload_n hx hb dL_builds_272 rfl (lv_at hl 6 rfl) ?_
                    refine lv_iconst (v := 1) hx hb dL_builds_273 (by decide) ?_
                    refine lv_dup2_11 hx hb dL_builds_274 rfl rfl ?_
                    obtain ⟨hi68, h⟩ := gin_e h
                    refine va_iald hx hb hK hP 4 0 rfl rfl hi68 dL_builds_275 ?_
                    refine lv_iconst (v := 1) hx hb dL_builds_276 (by decide) ?_
                    refine lv_iadd hx hb dL_builds_277 ?_
                    obtain ⟨hi69, h⟩ := gin_e h
                    refine va_iast hx hb hK hP hD hS 4 0 rfl rfl hi69 dL_builds_278 (fun H locs hP hD hS => ?_)
                    have hP : va_P D vwCl [(h_x, .inr (4, [.ref h_net, .ref a_now, .ref a_don, .ref a_wri, .ref a_per, .ref a_tho, .ref a_aft])), (h_net, .inr (1, [.ref h_ends, .int nc, .int w56, .int w57, .int so, .int lo])), (h_ends, .inl (cI, 24, .inl w55)), (h_t, .inl (cI, 24, .inl (upd ft (fg (1 : Int32).toNatClampNeg).toNatClampNeg ((v39 + ((16 : Int32) * v42)) + y64)))), (h_g, .inl (cI, 7, .inl (upd fg (1 : Int32).toNatClampNeg ((fg (1 : Int32).toNatClampNeg) + 1))))] H := hP
                    have hD : va_D A [(h_x, .inr (4, [.ref h_net, .ref a_now, .ref a_don, .ref a_wri, .ref a_per, .ref a_tho, .ref a_aft])), (h_net, .inr (1, [.ref h_ends, .int nc, .int w56, .int w57, .int so, .int lo])), (h_ends, .inl (cI, 24, .inl w55)), (h_t, .inl (cI, 24, .inl (upd ft (fg (1 : Int32).toNatClampNeg).toNatClampNeg ((v39 + ((16 : Int32) * v42)) + y64)))), (h_g, .inl (cI, 7, .inl (upd fg (1 : Int32).toNatClampNeg ((fg (1 : Int32).toNatClampNeg) + 1))))] := hD
                    refine lv_aload_n hx hb dL_builds_279 rfl (lv_at hl 3 rfl) ?_
                    refine lv_iload hx hb dL_builds_280 (lv_at hl 2 rfl) ?_
                    refine lv_iload hx hb dL_builds_282 (lv_at hl 1 rfl) ?_
                    refine lv_iload hx hb dL_builds_284 (lv_at hl 0 rfl) ?_
                    obtain ⟨k70, w71, w72, w73, hq74, h⟩ := bd4_e h
                    refine zz_hS (As := [.ref h_x, .int v39, .int v42, .int y44]) (wr := [(h_t, .inl (cI, 24, .inl (upd ft (fg (1 : Int32).toNatClampNeg).toNatClampNeg ((v39 + ((16 : Int32) * v42)) + y64)))), (h_g, .inl (cI, 7, .inl (upd fg (1 : Int32).toNatClampNeg ((fg (1 : Int32).toNatClampNeg) + 1))))]) (w1 := [(h_x, .inr (4, [.ref h_net, .ref a_now, .ref a_don, .ref a_wri, .ref a_per, .ref a_tho, .ref a_aft])), (h_net, .inr (1, [.ref h_ends, .int nc, .int w72, .int w73, .int so, .int lo])), (h_ends, .inl (cI, 24, .inl w71))]) (wt' := [(h_x, .inr (4, [.ref h_net, .ref a_now, .ref a_don, .ref a_wri, .ref a_per, .ref a_tho, .ref a_aft])), (h_net, .inr (1, [.ref h_ends, .int nc, .int w72, .int w73, .int so, .int lo])), (h_ends, .inl (cI, 24, .inl w71)), (h_t, .inl (cI, 24, .inl (upd ft (fg (1 : Int32).toNatClampNeg).toNatClampNeg ((v39 + ((16 : Int32) * v42)) + y64)))), (h_g, .inl (cI, 7, .inl (upd fg (1 : Int32).toNatClampNeg ((fg (1 : Int32).toNatClampNeg) + 1))))]) (wc := [(h_x, .inr (4, [.ref h_net, .ref a_now, .ref a_don, .ref a_wri, .ref a_per, .ref a_tho, .ref a_aft])), (h_net, .inr (1, [.ref h_ends, .int nc, .int w56, .int w57, .int so, .int lo])), (h_ends, .inl (cI, 24, .inl w55))]) (rv := (some (.int k70))) ⟨hx, hb, hml, hown, hts⟩ (kL_addSwitch l hl0 D cI cZ cL H.size h_x a_now a_don a_wri a_per a_tho a_aft h_net h_ends nc w56 w57 so lo w55 v39 v42 y44 N hq74) (vx_cwSW 4 hts gL_builds_L_addSwitch rfl rfl rfl (by decide +kernel) ⟨Nat.le_of_ble_eq_true rfl, Nat.le_of_ble_eq_true rfl⟩) hP hD hS hA hKK hKS hKZ hKX [0, 1, 2] [3, 4] [2, 3, 4, 0, 1] rfl rfl (by decide) (by decide) rfl (by decide) (by decide) rfl hl.1 rfl (Nat.le_of_ble_eq_true rfl) dL_builds_286 ⟨by show 0 + 3 + 3 + 3 ≤ 16; omega, by show 0 + 18 + 18 + 18 ≤ 96; omega⟩ (fun H locs hP hD hS hz9 => ?_)
                    show W p l e _ s m _ below meth c H locs _ _ QQ (F0 m 289 ls (.int k70 :: []))
                    refine lv_aload_n hx hb dL_builds_289 rfl (lv_at hl 6 rfl) ?_
                    refine lv_iconst (v := 1) hx hb dL_builds_290 (by decide) ?_
                    obtain ⟨hi75, h⟩ := gin_e h
                    refine va_iald hx hb hK hP 4 0 rfl rfl hi75 dL_builds_291 ?_
                    refine lv_iconst (v := 1) hx hb dL_builds_292 (by decide) ?_
                    refine lv_isub hx hb dL_builds_293 ?_
                    refine lv_icmp_ne (tgt := 301) hx hb dL_builds_294 (by decide) (fun c76 => ?_) (fun c76 => ?_)
                    · have h := it_f h c76
                      cases h
                    · have h := it_t h c76
                      refine lv_iconst (v := 1) hx hb dL_builds_297 (by decide) ?_
                      refine lv_goto (tgt := 302) hx hb dL_builds_298 (by decide) ?_
                      cases h
                      rw [hQQ]
                      refine W.widen (k := 16) (n := 96) (by omega) (by omega) ?_
                      exact W.zret (v := 1) hx hb hr (by decide) (fun t ht hW => ⟨rfl, by rw [ht]; exact hP, hD, hS.F ht⟩) hS.2.2 dL_builds_302
                  · refine lv_if_eq (tgt := 269) hx hb dL_builds_260 (by decide) (fun c77 => ?_) (fun c77 => ?_)
                    · have h := it_t h c77
                      refine lv_iconst (v := 0) hx hb dL_builds_269 (by decide) ?_
                      exact hg270_66 0 h H locs ls hP hD hS (lv_sub hl [0, 1, 2, 3, 4, 5, 6] rfl)
                    · have h := it_f h c77
                      refine lv_sipush (v := 256) hx hb dL_builds_263 (by decide) ?_
                      refine lv_goto (tgt := 270) hx hb dL_builds_266 (by decide) ?_
                      exact hg270_66 256 h H locs ls hP hD hS (lv_sub hl [0, 1, 2, 3, 4, 5, 6] rfl)
                · have h := it_t h c62
                  refine lv_aload_n hx hb dL_builds_225 rfl (lv_at hl 3 rfl) ?_
                  refine lv_iload hx hb dL_builds_226 (lv_at hl 2 rfl) ?_
                  refine lv_iload hx hb dL_builds_228 (lv_at hl 1 rfl) ?_
                  refine lv_iload hx hb dL_builds_230 (lv_at hl 0 rfl) ?_
                  obtain ⟨k78, w79, w80, w81, hq82, h⟩ := bd4_e h
                  refine zz_hS (As := [.ref h_x, .int v39, .int v42, .int y44]) (wr := [(h_t, .inl (cI, 24, .inl ft)), (h_g, .inl (cI, 7, .inl fg))]) (w1 := [(h_x, .inr (4, [.ref h_net, .ref a_now, .ref a_don, .ref a_wri, .ref a_per, .ref a_tho, .ref a_aft])), (h_net, .inr (1, [.ref h_ends, .int nc, .int w80, .int w81, .int so, .int lo])), (h_ends, .inl (cI, 24, .inl w79))]) (wt' := [(h_x, .inr (4, [.ref h_net, .ref a_now, .ref a_don, .ref a_wri, .ref a_per, .ref a_tho, .ref a_aft])), (h_net, .inr (1, [.ref h_ends, .int nc, .int w80, .int w81, .int so, .int lo])), (h_ends, .inl (cI, 24, .inl w79)), (h_t, .inl (cI, 24, .inl ft)), (h_g, .inl (cI, 7, .inl fg))]) (wc := [(h_x, .inr (4, [.ref h_net, .ref a_now, .ref a_don, .ref a_wri, .ref a_per, .ref a_tho, .ref a_aft])), (h_net, .inr (1, [.ref h_ends, .int nc, .int w56, .int w57, .int so, .int lo])), (h_ends, .inl (cI, 24, .inl w55))]) (rv := (some (.int k78))) ⟨hx, hb, hml, hown, hts⟩ (kL_addSwitch l hl0 D cI cZ cL H.size h_x a_now a_don a_wri a_per a_tho a_aft h_net h_ends nc w56 w57 so lo w55 v39 v42 y44 N hq82) (vx_cwSW 4 hts gL_builds_L_addSwitch rfl rfl rfl (by decide +kernel) ⟨Nat.le_of_ble_eq_true rfl, Nat.le_of_ble_eq_true rfl⟩) hP hD hS hA hKK hKS hKZ hKX [0, 1, 2] [3, 4] [2, 3, 4, 0, 1] rfl rfl (by decide) (by decide) rfl (by decide) (by decide) rfl hl.1 rfl (Nat.le_of_ble_eq_true rfl) dL_builds_232 ⟨by show 0 + 3 + 3 + 3 ≤ 16; omega, by show 0 + 18 + 18 + 18 ≤ 96; omega⟩ (fun H locs hP hD hS hz9 => ?_)
                  show W p l e _ s m _ below meth c H locs _ _ QQ (F0 m 235 ls (.int k78 :: []))
                  refine lv_bipush (v := (-73)) hx hb dL_builds_235 (by decide) ?_
                  refine lv_icmp_ne (tgt := 244) hx hb dL_builds_237 (by decide) (fun c83 => ?_) (fun c83 => ?_)
                  · have h := it_f h c83
                    cases h
                  · have h := it_t h c83
                    refine lv_iconst (v := 1) hx hb dL_builds_240 (by decide) ?_
                    refine lv_goto (tgt := 245) hx hb dL_builds_241 (by decide) ?_
                    cases h
                    rw [hQQ]
                    refine W.widen (k := 16) (n := 96) (by omega) (by omega) ?_
                    exact W.zret (v := 1) hx hb hr (by decide) (fun t ht hW => ⟨rfl, by rw [ht]; exact hP, hD, hS.F ht⟩) hS.2.2 dL_builds_245
              · have h := it_t h c60
                refine lv_aload_n hx hb dL_builds_196 rfl (lv_at hl 3 rfl) ?_
                refine lv_iload hx hb dL_builds_197 (lv_at hl 2 rfl) ?_
                refine lv_iload hx hb dL_builds_199 (lv_at hl 2 rfl) ?_
                refine lv_iload hx hb dL_builds_201 (lv_at hl 0 rfl) ?_
                obtain ⟨k84, w85, w86, w87, hq88, h⟩ := bd4_e h
                refine zz_hS (As := [.ref h_x, .int v39, .int v39, .int y44]) (wr := [(h_t, .inl (cI, 24, .inl ft)), (h_g, .inl (cI, 7, .inl fg))]) (w1 := [(h_x, .inr (4, [.ref h_net, .ref a_now, .ref a_don, .ref a_wri, .ref a_per, .ref a_tho, .ref a_aft])), (h_net, .inr (1, [.ref h_ends, .int nc, .int w86, .int w87, .int so, .int lo])), (h_ends, .inl (cI, 24, .inl w85))]) (wt' := [(h_x, .inr (4, [.ref h_net, .ref a_now, .ref a_don, .ref a_wri, .ref a_per, .ref a_tho, .ref a_aft])), (h_net, .inr (1, [.ref h_ends, .int nc, .int w86, .int w87, .int so, .int lo])), (h_ends, .inl (cI, 24, .inl w85)), (h_t, .inl (cI, 24, .inl ft)), (h_g, .inl (cI, 7, .inl fg))]) (wc := [(h_x, .inr (4, [.ref h_net, .ref a_now, .ref a_don, .ref a_wri, .ref a_per, .ref a_tho, .ref a_aft])), (h_net, .inr (1, [.ref h_ends, .int nc, .int w56, .int w57, .int so, .int lo])), (h_ends, .inl (cI, 24, .inl w55))]) (rv := (some (.int k84))) ⟨hx, hb, hml, hown, hts⟩ (kL_addSwitch l hl0 D cI cZ cL H.size h_x a_now a_don a_wri a_per a_tho a_aft h_net h_ends nc w56 w57 so lo w55 v39 v39 y44 N hq88) (vx_cwSW 4 hts gL_builds_L_addSwitch rfl rfl rfl (by decide +kernel) ⟨Nat.le_of_ble_eq_true rfl, Nat.le_of_ble_eq_true rfl⟩) hP hD hS hA hKK hKS hKZ hKX [0, 1, 2] [3, 4] [2, 3, 4, 0, 1] rfl rfl (by decide) (by decide) rfl (by decide) (by decide) rfl hl.1 rfl (Nat.le_of_ble_eq_true rfl) dL_builds_203 ⟨by show 0 + 3 + 3 + 3 ≤ 16; omega, by show 0 + 18 + 18 + 18 ≤ 96; omega⟩ (fun H locs hP hD hS hz9 => ?_)
                show W p l e _ s m _ below meth c H locs _ _ QQ (F0 m 206 ls (.int k84 :: []))
                refine lv_bipush (v := (-71)) hx hb dL_builds_206 (by decide) ?_
                refine lv_icmp_ne (tgt := 215) hx hb dL_builds_208 (by decide) (fun c89 => ?_) (fun c89 => ?_)
                · have h := it_f h c89
                  cases h
                · have h := it_t h c89
                  refine lv_iconst (v := 1) hx hb dL_builds_211 (by decide) ?_
                  refine lv_goto (tgt := 216) hx hb dL_builds_212 (by decide) ?_
                  cases h
                  rw [hQQ]
                  refine W.widen (k := 16) (n := 96) (by omega) (by omega) ?_
                  exact W.zret (v := 1) hx hb hr (by decide) (fun t ht hW => ⟨rfl, by rw [ht]; exact hP, hD, hS.F ht⟩) hS.2.2 dL_builds_216
            · have h := it_f h c59
              cases h
        · refine lv_if_le (tgt := 154) hx hb dL_builds_147 (by decide) (fun c90 => ?_) (fun c90 => ?_)
          · have h := it_t h c90
            refine lv_iconst (v := 0) hx hb dL_builds_154 (by decide) ?_
            exact hg155_46 0 h H locs ls hP hD hS (lv_sub hl [0, 1, 2, 3, 4, 5] rfl)
          · have h := it_f h c90
            refine lv_iconst (v := 1) hx hb dL_builds_150 (by decide) ?_
            refine lv_goto (tgt := 155) hx hb dL_builds_151 (by decide) ?_
            exact hg155_46 1 h H locs ls hP hD hS (lv_sub hl [0, 1, 2, 3, 4, 5] rfl)
      · refine lv_if_ne (tgt := 119) hx hb dL_builds_11 (by decide) (fun c91 => ?_) (fun c91 => ?_)
        · have h := it_f h c91
          exact hg119_37 h H locs ls hP hD hS (lv_sub hl [0, 1, 2, 3] rfl)
        · have h := it_t h c91
          refine lv_aload_n hx hb dL_builds_14 rfl (lv_at hl 3 rfl) ?_
          refine lv_iconst (v := 0) hx hb dL_builds_15 (by decide) ?_
          obtain ⟨hi92, h⟩ := gin_e h
          refine va_iald hx hb hK hP 4 0 rfl rfl hi92 dL_builds_16 ?_
          refine lv_bipush (v := 16) hx hb dL_builds_17 (by decide) ?_
          refine lv_icmp_ge (tgt := 119) hx hb dL_builds_19 (by decide) (fun c93 => ?_) (fun c93 => ?_)
          · have h := it_t h c93
            exact hg119_37 h H locs ls hP hD hS (lv_sub hl [0, 1, 2, 3] rfl)
          · have h := it_f h c93
            exact hg22_3 h H locs ls hP hD hS (lv_sub hl [0, 1, 2, 3] rfl)
