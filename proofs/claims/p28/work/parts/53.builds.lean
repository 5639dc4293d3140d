def fL_builds_22 (N : Nat) (nc : Int32) (sc : Int32) (br : Int32) (so : Int32) (lo : Int32) (fg : Nat → Int32) (ends : Nat → Int32) (ft : Nat → Int32) (p1 : Int32) : Option ((Int32) × (Int32) × (Int32) × (Nat → Int32) × (Int32) × (Int32) × (Nat → Int32) × (Nat → Int32)) :=
  jn1 (fun (y3 : Int32) => jn1 (fun (y6 : Int32) => jn1 (fun (y9 : Int32) => jn1 (fun (y12 : Int32) => bd4 (fL_addNode N nc sc br so lo y3 y6) (fun k15 w16 w17 w18 => (if k15 = (((upd (upd (upd fg 2 ((fg 2) ||| y9)) 3 (((upd fg 2 ((fg 2) ||| y9)) 3) ||| y12)) 0 (((upd (upd fg 2 ((fg 2) ||| y9)) 3 (((upd fg 2 ((fg 2) ||| y9)) 3) ||| y12)) 0) + 1)) 0) - 1) then some (w16, w17, w18, ends, sc, br, ft, upd (upd (upd fg 2 ((fg 2) ||| y9)) 3 (((upd fg 2 ((fg 2) ||| y9)) 3) ||| y12)) 0 (((upd (upd fg 2 ((fg 2) ||| y9)) 3 (((upd fg 2 ((fg 2) ||| y9)) 3) ||| y12)) 0) + 1)) else none))) (fun g88_13 => (if y6 = 0 then g88_13 0 else g88_13 ((1 : Int32) <<< (((upd fg 2 ((fg 2) ||| y9)) 0) &&& 31))))) (fun g68_10 => (if y3 = 0 then g68_10 0 else g68_10 ((1 : Int32) <<< ((fg 0) &&& 31))))) (fun g48_7 => (if (p1 &&& 96) = 0 then g48_7 1 else g48_7 0))) (fun g34_4 => (if (p1 &&& 24) = 0 then g34_4 1 else g34_4 0))
def fL_builds_119 (N : Nat) (p1 : Int32) (fg : Nat → Int32) (nc : Int32) (sc : Int32) (br : Int32) (so : Int32) (lo : Int32) (ends : Nat → Int32) (ft : Nat → Int32) : Option ((Int32) × (Int32) × (Int32) × (Nat → Int32) × (Int32) × (Int32) × (Nat → Int32) × (Nat → Int32)) :=
  bd1 (fL_low N  (p1 >>> (3 &&& 31)) (fg 0)) (fun v28 => bd1 (fL_low N  (p1 >>> (7 &&& 31)) (fg 0)) (fun v30 => jn1 (fun (y32 : Int32) => bd4 (fL_addSwitch N nc sc br so lo ends v28 (fg 0) y32) (fun k35 w36 w37 w38 => (if k35 = (-72) then bd4 (fL_addSwitch N nc w37 w38 so lo w36 (-1) v28 y32) (fun k41 w42 w43 w44 => (if k41 = (-72) then (if v28 = v30 then bd4 (fL_addSwitch N nc w43 w44 so lo w42 v28 v28 y32) (fun k66 w67 w68 w69 => (if k66 = (-71) then some (nc, so, lo, w67, w68, w69, ft, fg) else none)) else (if (fg 1) = 24 then bd4 (fL_addSwitch N nc w43 w44 so lo w42 v28 v30 y32) (fun k60 w61 w62 w63 => (if k60 = (-73) then some (nc, so, lo, w61, w62, w63, ft, fg) else none)) else jn1 (fun (y49 : Int32) => gin (fg 1) 24 (bd4 (fL_addSwitch N nc w43 w44 so lo w42 v28 v30 y32) (fun k53 w54 w55 w56 => (if k53 = (((upd fg 1 ((fg 1) + 1)) 1) - 1) then some (nc, so, lo, w54, w55, w56, upd ft (fg 1).toNatClampNeg ((v28 + ((16 : Int32) * v30)) + y49), upd fg 1 ((fg 1) + 1)) else none)))) (fun g270_50 => (if y32 = 0 then g270_50 0 else g270_50 256)))) else none)) else none))) (fun g155_33 => (if (p1 &&& 12288) ≤ 0 then g155_33 0 else g155_33 1))))
def fL_builds (N : Nat) (nc : Int32) (sc : Int32) (br : Int32) (so : Int32) (lo : Int32) (ends : Nat → Int32) (ft : Nat → Int32) (fg : Nat → Int32) (p1 : Int32) : Option ((Int32) × (Int32) × (Int32) × (Nat → Int32) × (Int32) × (Int32) × (Nat → Int32) × (Nat → Int32)) :=
  jn0 (fL_builds_22 N nc sc br so lo fg ends ft p1) (fun g22_1 => (if (fg 0) < 2 then g22_1 else jn0 (fL_builds_119 N p1 fg nc sc br so lo ends ft) (fun g119_26 => (if (p1 &&& 6) = 0 then (if 16 ≤ (fg 0) then g119_26 else g22_1) else g119_26))))
abbrev rmL_builds : Room := { frames := 9, cells := 16, slots := 96, locals := 151 }
set_option maxHeartbeats 16000000 in
set_option maxRecDepth 200000 in
theorem kL_builds (l : Launch) (hl0 : l.stackTraces = false) (D : va_G) (cI cZ cL : ClassId) (sz0 : Nat) (h_x a_now a_don a_wri a_per a_tho a_aft h_net h_ends h_t h_g : Nat) (nc : Int32) (sc : Int32) (br : Int32) (so : Int32) (lo : Int32) (ends : Nat → Int32) (ft : Nat → Int32) (fg : Nat → Int32) (p1 : Int32) (N : Nat) {r_0 : Int32} {r_1 : Int32} {r_2 : Int32} {r_3 : Nat → Int32} {r_4 : Int32} {r_5 : Int32} {r_6 : Nat → Int32} {r_7 : Nat → Int32} (h : fL_builds N nc sc br so lo ends ft fg p1 = some (r_0, r_1, r_2, r_3, r_4, r_5, r_6, r_7)) : Met l yL_builds wsL_builds rmL_builds (PH D cI cZ cL [.ref h_x, .int p1, .ref h_t, .ref h_g] [(h_x, .inr (4, [.ref h_net, .ref a_now, .ref a_don, .ref a_wri, .ref a_per, .ref a_tho, .ref a_aft])), (h_net, .inr (1, [.ref h_ends, .int nc, .int sc, .int br, .int so, .int lo])), (h_ends, .inl (cI, 24, .inl ends)), (h_t, .inl (cI, 24, .inl ft)), (h_g, .inl (cI, 7, .inl fg))] sz0) (QM D (some (.int 1)) (va_A [(h_x, .inr (4, [.ref h_net, .ref a_now, .ref a_don, .ref a_wri, .ref a_per, .ref a_tho, .ref a_aft])), (h_net, .inr (1, [.ref h_ends, .int nc, .int sc, .int br, .int so, .int lo])), (h_ends, .inl (cI, 24, .inl ends)), (h_t, .inl (cI, 24, .inl ft)), (h_g, .inl (cI, 7, .inl fg))] sz0) [(h_x, .inr (4, [.ref h_net, .ref a_now, .ref a_don, .ref a_wri, .ref a_per, .ref a_tho, .ref a_aft])), (h_net, .inr (1, [.ref h_ends, .int r_0, .int r_4, .int r_5, .int r_1, .int r_2])), (h_ends, .inl (cI, 24, .inl r_3)), (h_t, .inl (cI, 24, .inl r_6)), (h_g, .inl (cI, 7, .inl r_7))]) 16 96 (va_A [(h_x, .inr (4, [.ref h_net, .ref a_now, .ref a_don, .ref a_wri, .ref a_per, .ref a_tho, .ref a_aft])), (h_net, .inr (1, [.ref h_ends, .int nc, .int sc, .int br, .int so, .int lo])), (h_ends, .inl (cI, 24, .inl ends)), (h_t, .inl (cI, 24, .inl ft)), (h_g, .inl (cI, 7, .inl fg))] sz0) := by
  refine Met.ofW (cc := cL_builds) (maxL := 7) (ret := (some .boolean)) (by decide) rfl ?_
  intro p e s m args below meth c s₁ B hml hv
  obtain ⟨rfl, hsz, hP, hKK, hD0, hKS, hKZ, hKX⟩ := hv
  have hK := hKK.1
  have hx := B.exec
  have hb := B.bytes
  have hr := B.returns
  have hts := atoms_spec (ws := wsL_builds) B.pre
  have hown : s.vm.findClass RL = some m.cls := findClass_of_methodNamed B.named
  have hlocks := B.notSynchronized
  subst hsz
  have hD := hD0.self (sz := s.heap.size)
  generalize hAe : va_A [(h_x, .inr (4, [.ref h_net, .ref a_now, .ref a_don, .ref a_wri, .ref a_per, .ref a_tho, .ref a_aft])), (h_net, .inr (1, [.ref h_ends, .int nc, .int sc, .int br, .int so, .int lo])), (h_ends, .inl (cI, 24, .inl ends)), (h_t, .inl (cI, 24, .inl ft)), (h_g, .inl (cI, 7, .inl fg))] s.heap.size = A at hD hKZ ⊢
  have hA : ∀ q : Nat, s.heap.size ≤ q → A q := fun q h => by rw [← hAe]; exact Or.inr h
  have hS : va_S A s.heap s.heap [] := va_S.rf
  have hl := lv_entry ([.ref h_x, .int p1, .ref h_t, .ref h_g]) (n := 7) (Nat.le_of_ble_eq_true rfl)
  rw [lg_entry_eq]
  generalize (lg_sl ([.ref h_x, .int p1, .ref h_t, .ref h_g]) ++ List.replicate (7 - (lg_sl ([.ref h_x, .int p1, .ref h_t, .ref h_g])).length) Slot.unset).toArray = ls at hl ⊢
  have hl : lv_has ls 7 [(0, .ref h_x), (1, .int p1), (2, .ref h_t), (3, .ref h_g)] := hl
  obtain ⟨QQ, hQQ⟩ : ∃ Z, Z = MQ below (QM D (some (.int 1)) A [(h_x, .inr (4, [.ref h_net, .ref a_now, .ref a_don, .ref a_wri, .ref a_per, .ref a_tho, .ref a_aft])), (h_net, .inr (1, [.ref h_ends, .int r_0, .int r_4, .int r_5, .int r_1, .int r_2])), (h_ends, .inl (cI, 24, .inl r_3)), (h_t, .inl (cI, 24, .inl r_6)), (h_g, .inl (cI, 7, .inl r_7))]) ([.ref h_x, .int p1, .ref h_t, .ref h_g] : List Value).toArray s 16 96 A := ⟨_, rfl⟩
  rw [← hQQ]
  obtain ⟨H, locs, hHe, hLe⟩ : ∃ (H : Heap) (locs : List Loc), H = s.heap ∧ locs = [] := ⟨_, _, rfl, rfl⟩
  have hP : va_P D vwCl [(h_x, .inr (4, [.ref h_net, .ref a_now, .ref a_don, .ref a_wri, .ref a_per, .ref a_tho, .ref a_aft])), (h_net, .inr (1, [.ref h_ends, .int nc, .int sc, .int br, .int so, .int lo])), (h_ends, .inl (cI, 24, .inl ends)), (h_t, .inl (cI, 24, .inl ft)), (h_g, .inl (cI, 7, .inl fg))] H := by rw [hHe]; exact hP
  have hS : va_S A s.heap H locs := by rw [hHe, hLe]; exact hS
  have hW0 : ∀ QQ : State → Prop, W p l e (headSpec wsL_builds rmL_builds).room s m (([.ref h_x, .int p1, .ref h_t, .ref h_g] : List Value).toArray) below meth c H locs 0 0 QQ (F0 m 0 ls []) → W p l e (headSpec wsL_builds rmL_builds).room s m (([.ref h_x, .int p1, .ref h_t, .ref h_g] : List Value).toArray) below meth c s.heap [] 0 0 QQ (F0 m 0 ls []) := by rw [hHe, hLe]; exact fun _ h => h
  refine hW0 _ ?_
  clear hW0
  unfold fL_builds at h
  refine lv_aload_n hx hb dL_builds_0 rfl (lv_at hl 3 rfl) ?_
  refine lv_iconst (v := 0) hx hb dL_builds_1 (by decide) ?_
  refine va_iald hx hb hK hP 4 0 rfl rfl (by unfold vp_in; decide) dL_builds_2 ?_
  refine lv_iconst (v := 2) hx hb dL_builds_3 (by decide) ?_
  refine jn0_e (∀ (H : Heap) (locs : List Loc) (ls : Array Slot), va_P D vwCl [(h_x, .inr (4, [.ref h_net, .ref a_now, .ref a_don, .ref a_wri, .ref a_per, .ref a_tho, .ref a_aft])), (h_net, .inr (1, [.ref h_ends, .int nc, .int sc, .int br, .int so, .int lo])), (h_ends, .inl (cI, 24, .inl ends)), (h_t, .inl (cI, 24, .inl ft)), (h_g, .inl (cI, 7, .inl fg))] H → va_D A [(h_x, .inr (4, [.ref h_net, .ref a_now, .ref a_don, .ref a_wri, .ref a_per, .ref a_tho, .ref a_aft])), (h_net, .inr (1, [.ref h_ends, .int nc, .int sc, .int br, .int so, .int lo])), (h_ends, .inl (cI, 24, .inl ends)), (h_t, .inl (cI, 24, .inl ft)), (h_g, .inl (cI, 7, .inl fg))] → va_S A s.heap H locs → lv_has ls 7 [(0, .ref h_x), (1, .int p1), (2, .ref h_t), (3, .ref h_g)] → W p l e (headSpec wsL_builds rmL_builds).room s m (([.ref h_x, .int p1, .ref h_t, .ref h_g] : List Value).toArray) below meth c H locs (0) (0) QQ (F0 m 22 ls [])) h (fun h H locs ls hP hD hS hl => ?_) (fun g22_1 hg22_2 h => ?_)
  · unfold fL_builds_22 at h
    refine lv_iload_n hx hb dL_builds_22 rfl (lv_at hl 1 rfl) ?_
    refine lv_bipush (v := 24) hx hb dL_builds_23 (by decide) ?_
    refine lv_iand hx hb dL_builds_25 ?_
    refine jn1_e (fun (y3 : Int32) => ∀ (H : Heap) (locs : List Loc) (ls : Array Slot), va_P D vwCl [(h_x, .inr (4, [.ref h_net, .ref a_now, .ref a_don, .ref a_wri, .ref a_per, .ref a_tho, .ref a_aft])), (h_net, .inr (1, [.ref h_ends, .int nc, .int sc, .int br, .int so, .int lo])), (h_ends, .inl (cI, 24, .inl ends)), (h_t, .inl (cI, 24, .inl ft)), (h_g, .inl (cI, 7, .inl fg))] H → va_D A [(h_x, .inr (4, [.ref h_net, .ref a_now, .ref a_don, .ref a_wri, .ref a_per, .ref a_tho, .ref a_aft])), (h_net, .inr (1, [.ref h_ends, .int nc, .int sc, .int br, .int so, .int lo])), (h_ends, .inl (cI, 24, .inl ends)), (h_t, .inl (cI, 24, .inl ft)), (h_g, .inl (cI, 7, .inl fg))] → va_S A s.heap H locs → lv_has ls 7 [(0, .ref h_x), (1, .int p1), (2, .ref h_t), (3, .ref h_g)] → W p l e (headSpec wsL_builds rmL_builds).room s m (([.ref h_x, .int p1, .ref h_t, .ref h_g] : List Value).toArray) below meth c H locs (0) (0) QQ (F0 m 34 ls [.int y3])) h (fun y3 h H locs ls hP hD hS hl => ?_) (fun g34_4 hg34_5 h => ?_)
    · refine lv_istore (lv' := [(4, .int y3), (0, .ref h_x), (1, .int p1), (2, .ref h_t), (3, .ref h_g)]) hx hb dL_builds_34 hl (by decide) rfl (fun ls hl => ?_)
      refine lv_iload_n hx hb dL_builds_36 rfl (lv_at hl 2 rfl) ?_
      refine lv_bipush (v := 96) hx hb dL_builds_37 (by decide) ?_
      refine lv_iand hx hb dL_builds_39 ?_
      refine jn1_e (fun (y6 : Int32) => ∀ (H : Heap) (locs : List Loc) (ls : Array Slot), va_P D vwCl [(h_x, .inr (4, [.ref h_net, .ref a_now, .ref a_don, .ref a_wri, .ref a_per, .ref a_tho, .ref a_aft])), (h_net, .inr (1, [.ref h_ends, .int nc, .int sc, .int br, .int so, .int lo])), (h_ends, .inl (cI, 24, .inl ends)), (h_t, .inl (cI, 24, .inl ft)), (h_g, .inl (cI, 7, .inl fg))] H → va_D A [(h_x, .inr (4, [.ref h_net, .ref a_now, .ref a_don, .ref a_wri, .ref a_per, .ref a_tho, .ref a_aft])), (h_net, .inr (1, [.ref h_ends, .int nc, .int sc, .int br, .int so, .int lo])), (h_ends, .inl (cI, 24, .inl ends)), (h_t, .inl (cI, 24, .inl ft)), (h_g, .inl (cI, 7, .inl fg))] → va_S A s.heap H locs → lv_has ls 7 [(4, .int y3), (0, .ref h_x), (1, .int p1), (2, .ref h_t), (3, .ref h_g)] → W p l e (headSpec wsL_builds rmL_builds).room s m (([.ref h_x, .int p1, .ref h_t, .ref h_g] : List Value).toArray) below meth c H locs (0) (0) QQ (F0 m 48 ls [.int y6])) h (fun y6 h H locs ls hP hD hS hl => ?_) (fun g48_7 hg48_8 h => ?_)
      · refine lv_istore (lv' := [(5, .int y6), (4, .int y3), (0, .ref h_x), (1, .int p1), (2, .ref h_t), (3, .ref h_g)]) hx hb dL_builds_48 hl (by decide) rfl (fun ls hl => ?_)
        refine lv_aload_n hx hb dL_builds_50 rfl (lv_at hl 5 rfl) ?_
        refine lv_iconst (v := 2) hx hb dL_builds_51 (by decide) ?_
        refine lv_dup2_11 hx hb dL_builds_52 rfl rfl ?_
        refine va_iald hx hb hK hP 4 0 rfl rfl (by unfold vp_in; decide) dL_builds_53 ?_
        refine lv_iload hx hb dL_builds_54 (lv_at hl 1 rfl) ?_
        refine jn1_e (fun (y9 : Int32) => ∀ (H : Heap) (locs : List Loc) (ls : Array Slot), va_P D vwCl [(h_x, .inr (4, [.ref h_net, .ref a_now, .ref a_don, .ref a_wri, .ref a_per, .ref a_tho, .ref a_aft])), (h_net, .inr (1, [.ref h_ends, .int nc, .int sc, .int br, .int so, .int lo])), (h_ends, .inl (cI, 24, .inl ends)), (h_t, .inl (cI, 24, .inl ft)), (h_g, .inl (cI, 7, .inl fg))] H → va_D A [(h_x, .inr (4, [.ref h_net, .ref a_now, .ref a_don, .ref a_wri, .ref a_per, .ref a_tho, .ref a_aft])), (h_net, .inr (1, [.ref h_ends, .int nc, .int sc, .int br, .int so, .int lo])), (h_ends, .inl (cI, 24, .inl ends)), (h_t, .inl (cI, 24, .inl ft)), (h_g, .inl (cI, 7, .inl fg))] → va_S A s.heap H locs → lv_has ls 7 [(5, .int y6), (4, .int y3), (0, .ref h_x), (1, .int p1), (2, .ref h_t), (3, .ref h_g)] → W p l e (headSpec wsL_builds rmL_builds).room s m (([.ref h_x, .int p1, .ref h_t, .ref h_g] : List Value).toArray) below meth c H locs (0) (0) QQ (F0 m 68 ls [.int y9, .int (fg 2), .int 2, .ref h_g])) h (fun y9 h H locs ls hP hD hS hl => ?_) (fun g68_10 hg68_11 h => ?_)
        · refine lv_ior hx hb dL_builds_68 ?_
          refine va_iast hx hb hK hP hD hS 4 0 rfl rfl (by unfold vp_in; decide) dL_builds_69 (fun H locs hP hD hS => ?_)
          have hP : va_P D vwCl [(h_x, .inr (4, [.ref h_net, .ref a_now, .ref a_don, .ref a_wri, .ref a_per, .ref a_tho, .ref a_aft])), (h_net, .inr (1, [.ref h_ends, .int nc, .int sc, .int br, .int so, .int lo])), (h_ends, .inl (cI, 24, .inl ends)), (h_t, .inl (cI, 24, .inl ft)), (h_g, .inl (cI, 7, .inl (upd fg 2 ((fg 2) ||| y9))))] H := hP
          have hD : va_D A [(h_x, .inr (4, [.ref h_net, .ref a_now, .ref a_don, .ref a_wri, .ref a_per, .ref a_tho, .ref a_aft])), (h_net, .inr (1, [.ref h_ends, .int nc, .int sc, .int br, .int so, .int lo])), (h_ends, .inl (cI, 24, .inl ends)), (h_t, .inl (cI, 24, .inl ft)), (h_g, .inl (cI, 7, .inl (upd fg 2 ((fg 2) ||| y9))))] := hD
          refine lv_aload_n hx hb dL_builds_70 rfl (lv_at hl 5 rfl) ?_
          refine lv_iconst (v := 3) hx hb dL_builds_71 (by decide) ?_
          refine lv_dup2_11 hx hb dL_builds_72 rfl rfl ?_
          refine va_iald hx hb hK hP 4 0 rfl rfl (by unfold vp_in; decide) dL_builds_73 ?_
          refine lv_iload hx hb dL_builds_74 (lv_at hl 0 rfl) ?_
          refine jn1_e (fun (y12 : Int32) => ∀ (H : Heap) (locs : List Loc) (ls : Array Slot), va_P D vwCl [(h_x, .inr (4, [.ref h_net, .ref a_now, .ref a_don, .ref a_wri, .ref a_per, .ref a_tho, .ref a_aft])), (h_net, .inr (1, [.ref h_ends, .int nc, .int sc, .int br, .int so, .int lo])), (h_ends, .inl (cI, 24, .inl ends)), (h_t, .inl (cI, 24, .inl ft)), (h_g, .inl (cI, 7, .inl (upd fg 2 ((fg 2) ||| y9))))] H → va_D A [(h_x, .inr (4, [.ref h_net, .ref a_now, .ref a_don, .ref a_wri, .ref a_per, .ref a_tho, .ref a_aft])), (h_net, .inr (1, [.ref h_ends, .int nc, .int sc, .int br, .int so, .int lo])), (h_ends, .inl (cI, 24, .inl ends)), (h_t, .inl (cI, 24, .inl ft)), (h_g, .inl (cI, 7, .inl (upd fg 2 ((fg 2) ||| y9))))] → va_S A s.heap H locs → lv_has ls 7 [(5, .int y6), (4, .int y3), (0, .ref h_x), (1, .int p1), (2, .ref h_t), (3, .ref h_g)] → W p l e (headSpec wsL_builds rmL_builds).room s m (([.ref h_x, .int p1, .ref h_t, .ref h_g] : List Value).toArray) below meth c H locs (0) (0) QQ (F0 m 88 ls [.int y12, .int ((upd fg 2 ((fg 2) ||| y9)) 3), .int 3, .ref h_g])) h (fun y12 h H locs ls hP hD hS hl => ?_) (fun g88_13 hg88_14 h => ?_)
          · refine lv_ior hx hb dL_builds_88 ?_
            refine va_iast hx hb hK hP hD hS 4 0 rfl rfl (by unfold vp_in; decide) dL_builds_89 (fun H locs hP hD hS => ?_)
            have hP : va_P D vwCl [(h_x, .inr (4, [.ref h_net, .ref a_now, .ref a_don, .ref a_wri, .ref a_per, .ref a_tho, .ref a_aft])), (h_net, .inr (1, [.ref h_ends, .int nc, .int sc, .int br, .int so, .int lo])), (h_ends, .inl (cI, 24, .inl ends)), (h_t, .inl (cI, 24, .inl ft)), (h_g, .inl (cI, 7, .inl (upd (upd fg 2 ((fg 2) ||| y9)) 3 (((upd fg 2 ((fg 2) ||| y9)) 3) ||| y12))))] H := hP
            have hD : va_D A [(h_x, .inr (4, [.ref h_net, .ref a_now, .ref a_don, .ref a_wri, .ref a_per, .ref a_tho, .ref a_aft])), (h_net, .inr (1, [.ref h_ends, .int nc, .int sc, .int br, .int so, .int lo])), (h_ends, .inl (cI, 24, .inl ends)), (h_t, .inl (cI, 24, .inl ft)), (h_g, .inl (cI, 7, .inl (upd (upd fg 2 ((fg 2) ||| y9)) 3 (((upd fg 2 ((fg 2) ||| y9)) 3) ||| y12))))] := hD
            refine lv_aload_n hx hb dL_builds_90 rfl (lv_at hl 5 rfl) ?_
            refine lv_iconst (v := 0) hx hb dL_builds_91 (by decide) ?_
            refine lv_dup2_11 hx hb dL_builds_92 rfl rfl ?_
            refine va_iald hx hb hK hP 4 0 rfl rfl (by unfold vp_in; decide) dL_builds_93 ?_
            refine lv_iconst (v := 1) hx hb dL_builds_94 (by decide) ?_
            refine lv_iadd hx hb dL_builds_95 ?_
            refine va_iast hx hb hK hP hD hS 4 0 rfl rfl (by unfold vp_in; decide) dL_builds_96 (fun H locs hP hD hS => ?_)
            have hP : va_P D vwCl [(h_x, .inr (4, [.ref h_net, .ref a_now, .ref a_don, .ref a_wri, .ref a_per, .ref a_tho, .ref a_aft])), (h_net, .inr (1, [.ref h_ends, .int nc, .int sc, .int br, .int so, .int lo])), (h_ends, .inl (cI, 24, .inl ends)), (h_t, .inl (cI, 24, .inl ft)), (h_g, .inl (cI, 7, .inl (upd (upd (upd fg 2 ((fg 2) ||| y9)) 3 (((upd fg 2 ((fg 2) ||| y9)) 3) ||| y12)) 0 (((upd (upd fg 2 ((fg 2) ||| y9)) 3 (((upd fg 2 ((fg 2) ||| y9)) 3) ||| y12)) 0) + 1))))] H := hP
            have hD : va_D A [(h_x, .inr (4, [.ref h_net, .ref a_now, .ref a_don, .ref a_wri, .ref a_per, .ref a_tho, .ref a_aft])), (h_net, .inr (1, [.ref h_ends, .int nc, .int sc, .int br, .int so, .int lo])), (h_ends, .inl (cI, 24, .inl ends)), (h_t, .inl (cI, 24, .inl ft)), (h_g, .inl (cI, 7, .inl (upd (upd (upd fg 2 ((fg 2) ||| y9)) 3 (((upd fg 2 ((fg 2) ||| y9)) 3) ||| y12)) 0 (((upd (upd fg 2 ((fg 2) ||| y9)) 3 (((upd fg 2 ((fg 2) ||| y9)) 3) ||| y12)) 0) + 1))))] := hD
            refine lv_aload_n hx hb dL_builds_97 rfl (lv_at hl 2 rfl) ?_
            refine lv_iload hx hb dL_builds_98 (lv_at hl 1 rfl) ?_
            refine lv_iload hx hb dL_builds_100 (lv_at hl 0 rfl) ?_
            obtain ⟨k15, w16, w17, w18, hq19, h⟩ := bd4_e h
            refine zz_hS (As := [.ref h_x, .int y3, .int y6]) (wr := [(h_ends, .inl (cI, 24, .inl ends)), (h_t, .inl (cI, 24, .inl ft)), (h_g, .inl (cI, 7, .inl (upd (upd (upd fg 2 ((fg 2) ||| y9)) 3 (((upd fg 2 ((fg 2) ||| y9)) 3) ||| y12)) 0 (((upd (upd fg 2 ((fg 2) ||| y9)) 3 (((upd fg 2 ((fg 2) ||| y9)) 3) ||| y12)) 0) + 1))))]) (w1 := [(h_x, .inr (4, [.ref h_net, .ref a_now, .ref a_don, .ref a_wri, .ref a_per, .ref a_tho, .ref a_aft])), (h_net, .inr (1, [.ref h_ends, .int w16, .int sc, .int br, .int w17, .int w18]))]) (wt' := [(h_x, .inr (4, [.ref h_net, .ref a_now, .ref a_don, .ref a_wri, .ref a_per, .ref a_tho, .ref a_aft])), (h_net, .inr (1, [.ref h_ends, .int w16, .int sc, .int br, .int w17, .int w18])), (h_ends, .inl (cI, 24, .inl ends)), (h_t, .inl (cI, 24, .inl ft)), (h_g, .inl (cI, 7, .inl (upd (upd (upd fg 2 ((fg 2) ||| y9)) 3 (((upd fg 2 ((fg 2) ||| y9)) 3) ||| y12)) 0 (((upd (upd fg 2 ((fg 2) ||| y9)) 3 (((upd fg 2 ((fg 2) ||| y9)) 3) ||| y12)) 0) + 1))))]) (wc := [(h_x, .inr (4, [.ref h_net, .ref a_now, .ref a_don, .ref a_wri, .ref a_per, .ref a_tho, .ref a_aft])), (h_net, .inr (1, [.ref h_ends, .int nc, .int sc, .int br, .int so, .int lo]))]) (rv := (some (.int k15))) ⟨hx, hb, hml, hown, hts⟩ (kL_addNode l hl0 D cI cZ cL H.size h_x a_now a_don a_wri a_per a_tho a_aft h_net h_ends nc sc br so lo y3 y6 N hq19) (vx_cwSW 3 hts gL_builds_L_addNode rfl rfl rfl (by decide +kernel) ⟨Nat.le_of_ble_eq_true rfl, Nat.le_of_ble_eq_true rfl⟩) hP hD hS hA hKK hKS hKZ hKX [0, 1] [2, 3, 4] [3, 4, 0, 1, 2] rfl rfl (by decide) (by decide) rfl (by decide) (by decide) rfl hl.1 rfl (Nat.le_of_ble_eq_true rfl) dL_builds_102 ⟨by show 0 + 1 ≤ 16; omega, by show 0 + 6 ≤ 96; omega⟩ (fun H locs hP hD hS hz9 => ?_)
            show W p l e _ s m _ below meth c H locs _ _ QQ (F0 m 105 ls (.int k15 :: []))
            refine lv_aload_n hx hb dL_builds_105 rfl (lv_at hl 5 rfl) ?_
            refine lv_iconst (v := 0) hx hb dL_builds_106 (by decide) ?_
            refine va_iald hx hb hK hP 4 0 rfl rfl (by unfold vp_in; decide) dL_builds_107 ?_
            refine lv_iconst (v := 1) hx hb dL_builds_108 (by decide) ?_
            refine lv_isub hx hb dL_builds_109 ?_
            refine lv_icmp_ne (tgt := 117) hx hb dL_builds_110 (by decide) (fun c20 => ?_) (fun c20 => ?_)
            · have h := it_f h c20
              cases h
            · have h := it_t h c20
              refine lv_iconst (v := 1) hx hb dL_builds_113 (by decide) ?_
              refine lv_goto (tgt := 118) hx hb dL_builds_114 (by decide) ?_
              cases h
              rw [hQQ]
              refine W.widen (k := 16) (n := 96) (by omega) (by omega) ?_
              exact W.zret (v := 1) hx hb hr (by decide) (fun t ht hW => ⟨rfl, by rw [ht]; exact hP, hD, hS.F ht⟩) hS.2.2 dL_builds_118
          · refine lv_if_eq (tgt := 87) hx hb dL_builds_76 (by decide) (fun c21 => ?_) (fun c21 => ?_)
            · have h := it_t h c21
              refine lv_iconst (v := 0) hx hb dL_builds_87 (by decide) ?_
              exact hg88_14 0 h H locs ls hP hD hS (lv_sub hl [0, 1, 2, 3, 4, 5] rfl)
            · have h := it_f h c21
              refine lv_iconst (v := 1) hx hb dL_builds_79 (by decide) ?_
              refine lv_aload_n hx hb dL_builds_80 rfl (lv_at hl 5 rfl) ?_
              refine lv_iconst (v := 0) hx hb dL_builds_81 (by decide) ?_
              refine va_iald hx hb hK hP 4 0 rfl rfl (by unfold vp_in; decide) dL_builds_82 ?_
              refine lv_ishl hx hb dL_builds_83 ?_
              refine lv_goto (tgt := 88) hx hb dL_builds_84 (by decide) ?_
              exact hg88_14 ((1 : Int32) <<< (((upd fg 2 ((fg 2) ||| y9)) 0) &&& 31)) h H locs ls hP hD hS (lv_sub hl [0, 1, 2, 3, 4, 5] rfl)
        · refine lv_if_eq (tgt := 67) hx hb dL_builds_56 (by decide) (fun c22 => ?_) (fun c22 => ?_)
          · have h := it_t h c22
            refine lv_iconst (v := 0) hx hb dL_builds_67 (by decide) ?_
            exact hg68_11 0 h H locs ls hP hD hS (lv_sub hl [0, 1, 2, 3, 4, 5] rfl)
          · have h := it_f h c22
            refine lv_iconst (v := 1) hx hb dL_builds_59 (by decide) ?_
            refine lv_aload_n hx hb dL_builds_60 rfl (lv_at hl 5 rfl) ?_
            refine lv_iconst (v := 0) hx hb dL_builds_61 (by decide) ?_
            refine va_iald hx hb hK hP 4 0 rfl rfl (by unfold vp_in; decide) dL_builds_62 ?_
            refine lv_ishl hx hb dL_builds_63 ?_
            refine lv_goto (tgt := 68) hx hb dL_builds_64 (by decide) ?_
            exact hg68_11 ((1 : Int32) <<< ((fg 0) &&& 31)) h H locs ls hP hD hS (lv_sub hl [0, 1, 2, 3, 4, 5] rfl)
      · refine lv_if_ne (tgt := 47) hx hb dL_builds_40 (by decide) (fun c23 => ?_) (fun c23 => ?_)
        · have h := it_f h c23
          refine lv_iconst (v := 0) hx hb dL_builds_47 (by decide) ?_
          exact hg48_8 0 h H locs ls hP hD hS (lv_sub hl [0, 1, 2, 3, 4] rfl)
        · have h := it_t h c23
          refine lv_iconst (v := 1) hx hb dL_builds_43 (by decide) ?_
          refine lv_goto (tgt := 48) hx hb dL_builds_44 (by decide) ?_
          exact hg48_8 1 h H locs ls hP hD hS (lv_sub hl [0, 1, 2, 3, 4] rfl)
    · refine lv_if_ne (tgt := 33) hx hb dL_builds_26 (by decide) (fun c24 => ?_) (fun c24 => ?_)
      · have h := it_f h c24
        refine lv_iconst (v := 0) hx hb dL_builds_33 (by decide) ?_
        exact hg34_5 0 h H locs ls hP hD hS (lv_sub hl [0, 1, 2, 3] rfl)
      · have h := it_t h c24
        refine lv_iconst (v := 1) hx hb dL_builds_29 (by decide) ?_
        refine lv_goto (tgt := 34) hx hb dL_builds_30 (by decide) ?_
        exact hg34_5 1 h H locs ls hP hD hS (lv_sub hl [0, 1, 2, 3] rfl)
  · refine lv_icmp_lt (tgt := 22) hx hb dL_builds_4 (by decide) (fun c25 => ?_) (fun c25 => ?_)
    · have h := it_t h c25
      exact hg22_2 h H locs ls hP hD hS (lv_sub hl [0, 1, 2, 3] rfl)
    · have h := it_f h c25
      refine lv_iload_n hx hb dL_builds_7 rfl (lv_at hl 1 rfl) ?_
      refine lv_bipush (v := 6) hx hb dL_builds_8 (by decide) ?_
      refine lv_iand hx hb dL_builds_10 ?_
      refine jn0_e (∀ (H : Heap) (locs : List Loc) (ls : Array Slot), va_P D vwCl [(h_x, .inr (4, [.ref h_net, .ref a_now, .ref a_don, .ref a_wri, .ref a_per, .ref a_tho, .ref a_aft])), (h_net, .inr (1, [.ref h_ends, .int nc, .int sc, .int br, .int so, .int lo])), (h_ends, .inl (cI, 24, .inl ends)), (h_t, .inl (cI, 24, .inl ft)), (h_g, .inl (cI, 7, .inl fg))] H → va_D A [(h_x, .inr (4, [.ref h_net, .ref a_now, .ref a_don, .ref a_wri, .ref a_per, .ref a_tho, .ref a_aft])), (h_net, .inr (1, [.ref h_ends, .int nc, .int sc, .int br, .int so, .int lo])), (h_ends, .inl (cI, 24, .inl ends)), (h_t, .inl (cI, 24, .inl ft)), (h_g, .inl (cI, 7, .inl fg))] → va_S A s.heap H locs → lv_has ls 7 [(0, .ref h_x), (1, .int p1), (2, .ref h_t), (3, .ref h_g)] → W p l e (headSpec wsL_builds rmL_builds).room s m (([.ref h_x, .int p1, .ref h_t, .ref h_g] : List Value).toArray) below meth c H locs (0) (0) QQ (F0 m 119 ls [])) h (fun h H locs ls hP hD hS hl => ?_) (fun g119_26 hg119_27 h => ?_)
      · unfold fL_builds_119 at h
        refine lv_iload_n hx hb dL_builds_119 rfl (lv_at hl 1 rfl) ?_
        refine lv_iconst (v := 3) hx hb dL_builds_120 (by decide) ?_
        refine lv_ishr hx hb dL_builds_121 ?_
        refine lv_aload_n hx hb dL_builds_122 rfl (lv_at hl 3 rfl) ?_
        refine lv_iconst (v := 0) hx hb dL_builds_123 (by decide) ?_
        refine va_iald hx hb hK hP 4 0 rfl rfl (by unfold vp_in; decide) dL_builds_124 ?_
        obtain ⟨v28, hq29, h⟩ := bd1_e h
        refine zz_cS (As := [.int (p1 >>> (3 &&& 31)), .int (fg 0)]) ⟨hx, hb, hml, hown, hts⟩ (kL_low l D cI cZ cL (p1 >>> (3 &&& 31)) (fg 0) N hq29) (va_cwS 2 hts gL_builds_L_low rfl rfl rfl (by decide +kernel) ⟨Nat.le_of_ble_eq_true rfl, Nat.le_of_ble_eq_true rfl⟩) (hP.sub (ws' := []) [] rfl) hKK rfl hl.1 rfl (Nat.le_of_ble_eq_true rfl) dL_builds_125 ⟨by show 0 ≤ 16; omega, by show 0 ≤ 96; omega⟩ ?_
        refine lv_istore (lv' := [(4, .int v28), (0, .ref h_x), (1, .int p1), (2, .ref h_t), (3, .ref h_g)]) hx hb dL_builds_128 hl (by decide) rfl (fun ls hl => ?_)
        refine lv_iload_n hx hb dL_builds_130 rfl (lv_at hl 2 rfl) ?_
        refine lv_bipush (v := 7) hx hb dL_builds_131 (by decide) ?_
        refine lv_ishr hx hb dL_builds_133 ?_
        refine lv_aload_n hx hb dL_builds_134 rfl (lv_at hl 4 rfl) ?_
        refine lv_iconst (v := 0) hx hb dL_builds_135 (by decide) ?_
        refine va_iald hx hb hK hP 4 0 rfl rfl (by unfold vp_in; decide) dL_builds_136 ?_
        obtain ⟨v30, hq31, h⟩ := bd1_e h
        refine zz_cS (As := [.int (p1 >>> (7 &&& 31)), .int (fg 0)]) ⟨hx, hb, hml, hown, hts⟩ (kL_low l D cI cZ cL (p1 >>> (7 &&& 31)) (fg 0) N hq31) (va_cwS 2 hts gL_builds_L_low rfl rfl rfl (by decide +kernel) ⟨Nat.le_of_ble_eq_true rfl, Nat.le_of_ble_eq_true rfl⟩) (hP.sub (ws' := []) [] rfl) hKK rfl hl.1 rfl (Nat.le_of_ble_eq_true rfl) dL_builds_137 ⟨by show 0 ≤ 16; omega, by show 0 ≤ 96; omega⟩ ?_
        refine lv_istore (lv' := [(5, .int v30), (4, .int v28), (0, .ref h_x), (1, .int p1), (2, .ref h_t), (3, .ref h_g)]) hx hb dL_builds_140 hl (by decide) rfl (fun ls hl => ?_)
        refine lv_iload_n hx hb dL_builds_142 rfl (lv_at hl 3 rfl) ?_
        refine lv_sipush (v := 12288) hx hb dL_builds_143 (by decide) ?_
        refine lv_iand hx hb dL_builds_146 ?_
        refine jn1_e (fun (y32 : Int32) => ∀ (H : Heap) (locs : List Loc) (ls : Array Slot), va_P D vwCl [(h_x, .inr (4, [.ref h_net, .ref a_now, .ref a_don, .ref a_wri, .ref a_per, .ref a_tho, .ref a_aft])), (h_net, .inr (1, [.ref h_ends, .int nc, .int sc, .int br, .int so, .int lo])), (h_ends, .inl (cI, 24, .inl ends)), (h_t, .inl (cI, 24, .inl ft)), (h_g, .inl (cI, 7, .inl fg))] H → va_D A [(h_x, .inr (4, [.ref h_net, .ref a_now, .ref a_don, .ref a_wri, .ref a_per, .ref a_tho, .ref a_aft])), (h_net, .inr (1, [.ref h_ends, .int nc, .int sc, .int br, .int so, .int lo])), (h_ends, .inl (cI, 24, .inl ends)), (h_t, .inl (cI, 24, .inl ft)), (h_g, .inl (cI, 7, .inl fg))] → va_S A s.heap H locs → lv_has ls 7 [(5, .int v30), (4, .int v28), (0, .ref h_x), (1, .int p1), (2, .ref h_t), (3, .ref h_g)] → W p l e (headSpec wsL_builds rmL_builds).room s m (([.ref h_x, .int p1, .ref h_t, .ref h_g] : List Value).toArray) below meth c H locs (0) (0) QQ (F0 m 155 ls [.int y32])) h (fun y32 h H locs ls hP hD hS hl => ?_) (fun g155_33 hg155_34 h => ?_)
        · refine lv_istore (lv' := [(6, .int y32), (5, .int v30), (4, .int v28), (0, .ref h_x), (1, .int p1), (2, .ref h_t), (3, .ref h_g)]) hx hb dL_builds_155 hl (by decide) rfl (fun ls hl => ?_)
          refine lv_aload_n hx hb dL_builds_157 rfl (lv_at hl 3 rfl) ?_
          refine lv_iload hx hb dL_builds_158 (lv_at hl 2 rfl) ?_
          refine lv_aload_n hx hb dL_builds_160 rfl (lv_at hl 6 rfl) ?_
          refine lv_iconst (v := 0) hx hb dL_builds_161 (by decide) ?_
          refine va_iald hx hb hK hP 4 0 rfl rfl (by unfold vp_in; decide) dL_builds_162 ?_
          refine lv_iload hx hb dL_builds_163 (lv_at hl 0 rfl) ?_
          obtain ⟨k35, w36, w37, w38, hq39, h⟩ := bd4_e h
          refine zz_hS (As := [.ref h_x, .int v28, .int (fg 0), .int y32]) (wr := [(h_t, .inl (cI, 24, .inl ft)), (h_g, .inl (cI, 7, .inl fg))]) (w1 := [(h_x, .inr (4, [.ref h_net, .ref a_now, .ref a_don, .ref a_wri, .ref a_per, .ref a_tho, .ref a_aft])), (h_net, .inr (1, [.ref h_ends, .int nc, .int w37, .int w38, .int so, .int lo])), (h_ends, .inl (cI, 24, .inl w36))]) (wt' := [(h_x, .inr (4, [.ref h_net, .ref a_now, .ref a_don, .ref a_wri, .ref a_per, .ref a_tho, .ref a_aft])), (h_net, .inr (1, [.ref h_ends, .int nc, .int w37, .int w38, .int so, .int lo])), (h_ends, .inl (cI, 24, .inl w36)), (h_t, .inl (cI, 24, .inl ft)), (h_g, .inl (cI, 7, .inl fg))]) (wc := [(h_x, .inr (4, [.ref h_net, .ref a_now, .ref a_don, .ref a_wri, .ref a_per, .ref a_tho, .ref a_aft])), (h_net, .inr (1, [.ref h_ends, .int nc, .int sc, .int br, .int so, .int lo])), (h_ends, .inl (cI, 24, .inl ends))]) (rv := (some (.int k35))) ⟨hx, hb, hml, hown, hts⟩ (kL_addSwitch l hl0 D cI cZ cL H.size h_x a_now a_don a_wri a_per a_tho a_aft h_net h_ends nc sc br so lo ends v28 (fg 0) y32 N hq39) (vx_cwSW 4 hts gL_builds_L_addSwitch rfl rfl rfl (by decide +kernel) ⟨Nat.le_of_ble_eq_true rfl, Nat.le_of_ble_eq_true rfl⟩) hP hD hS hA hKK hKS hKZ hKX [0, 1, 2] [3, 4] [2, 3, 4, 0, 1] rfl rfl (by decide) (by decide) rfl (by decide) (by decide) rfl hl.1 rfl (Nat.le_of_ble_eq_true rfl) dL_builds_165 ⟨by show 0 + 3 ≤ 16; omega, by show 0 + 18 ≤ 96; omega⟩ (fun H locs hP hD hS hz9 => ?_)
          show W p l e _ s m _ below meth c H locs _ _ QQ (F0 m 168 ls (.int k35 :: []))
          refine lv_bipush (v := (-72)) hx hb dL_builds_168 (by decide) ?_
          refine lv_icmp_ne (tgt := 187) hx hb dL_builds_170 (by decide) (fun c40 => ?_) (fun c40 => ?_)
          · have h := it_f h c40
            cases h
          · have h := it_t h c40
            refine lv_aload_n hx hb dL_builds_173 rfl (lv_at hl 3 rfl) ?_
            refine lv_iconst (v := (-1)) hx hb dL_builds_174 (by decide) ?_
            refine lv_iload hx hb dL_builds_175 (lv_at hl 2 rfl) ?_
            refine lv_iload hx hb dL_builds_177 (lv_at hl 0 rfl) ?_
            obtain ⟨k41, w42, w43, w44, hq45, h⟩ := bd4_e h
            refine zz_hS (As := [.ref h_x, .int (-1), .int v28, .int y32]) (wr := [(h_t, .inl (cI, 24, .inl ft)), (h_g, .inl (cI, 7, .inl fg))]) (w1 := [(h_x, .inr (4, [.ref h_net, .ref a_now, .ref a_don, .ref a_wri, .ref a_per, .ref a_tho, .ref a_aft])), (h_net, .inr (1, [.ref h_ends, .int nc, .int w43, .int w44, .int so, .int lo])), (h_ends, .inl (cI, 24, .inl w42))]) (wt' := [(h_x, .inr (4, [.ref h_net, .ref a_now, .ref a_don, .ref a_wri, .ref a_per, .ref a_tho, .ref a_aft])), (h_net, .inr (1, [.ref h_ends, .int nc, .int w43, .int w44, .int so, .int lo])), (h_ends, .inl (cI, 24, .inl w42)), (h_t, .inl (cI, 24, .inl ft)), (h_g, .inl (cI, 7, .inl fg))]) (wc := [(h_x, .inr (4, [.ref h_net, .ref a_now, .ref a_don, .ref a_wri, .ref a_per, .ref a_tho, .ref a_aft])), (h_net, .inr (1, [.ref h_ends, .int nc, .int w37, .int w38, .int so, .int lo])), (h_ends, .inl (cI, 24, .inl w36))]) (rv := (some (.int k41))) ⟨hx, hb, hml, hown, hts⟩ (kL_addSwitch l hl0 D cI cZ cL H.size h_x a_now a_don a_wri a_per a_tho a_aft h_net h_ends nc w37 w38 so lo w36 (-1) v28 y32 N hq45) (vx_cwSW 4 hts gL_builds_L_addSwitch rfl rfl rfl (by decide +kernel) ⟨Nat.le_of_ble_eq_true rfl, Nat.le_of_ble_eq_true rfl⟩) hP hD hS hA hKK hKS hKZ hKX [0, 1, 2] [3, 4] [2, 3, 4, 0, 1] rfl rfl (by decide) (by decide) rfl (by decide) (by decide) rfl hl.1 rfl (Nat.le_of_ble_eq_true rfl) dL_builds_179 ⟨by show 0 + 3 + 3 ≤ 16; omega, by show 0 + 18 + 18 ≤ 96; omega⟩ (fun H locs hP hD hS hz9 => ?_)
            show W p l e _ s m _ below meth c H locs _ _ QQ (F0 m 182 ls (.int k41 :: []))
            refine lv_bipush (v := (-72)) hx hb dL_builds_182 (by decide) ?_
            refine lv_icmp_eq (tgt := 189) hx hb dL_builds_184 (by decide) (fun c46 => ?_) (fun c46 => ?_)
            · have h := it_t h c46
              refine lv_iload hx hb dL_builds_189 (lv_at hl 2 rfl) ?_
              refine lv_iload hx hb dL_builds_191 (lv_at hl 1 rfl) ?_
              refine lv_icmp_ne (tgt := 217) hx hb dL_builds_193 (by decide) (fun c47 => ?_) (fun c47 => ?_)
              · have h := it_f h c47
                refine lv_aload_n hx hb dL_builds_217 rfl (lv_at hl 6 rfl) ?_
                refine lv_iconst (v := 1) hx hb dL_builds_218 (by decide) ?_
                refine va_iald hx hb hK hP 4 0 rfl rfl (by unfold vp_in; decide) dL_builds_219 ?_
                refine lv_bipush (v := 24) hx hb dL_builds_220 (by decide) ?_
                refine lv_icmp_ne (tgt := 246) hx hb dL_builds_222 (by decide) (fun c48 => ?_) (fun c48 => ?_)
                · have h := it_f h c48
                  refine lv_aload_n hx hb dL_builds_246 rfl (lv_at hl 5 rfl) ?_
                  refine lv_aload_n hx hb dL_builds_247 rfl (lv_at hl 6 rfl) ?_
                  refine lv_iconst (v := 1) hx hb dL_builds_248 (by decide) ?_
                  refine va_iald hx hb hK hP 4 0 rfl rfl (by unfold vp_in; decide) dL_builds_249 ?_
                  refine lv_iload hx hb dL_builds_250 (lv_at hl 2 rfl) ?_
                  refine lv_bipush (v := 16) hx hb dL_builds_252 (by decide) ?_
                  refine lv_iload hx hb dL_builds_254 (lv_at hl 1 rfl) ?_
                  refine lv_imul hx hb dL_builds_256 ?_
                  refine lv_iadd hx hb dL_builds_257 ?_
                  refine lv_iload hx hb dL_builds_258 (lv_at hl 0 rfl) ?_
                  refine jn1_e (fun (y49 : Int32) => ∀ (H : Heap) (locs : List Loc) (ls : Array Slot), va_P D vwCl [(h_x, .inr (4, [.ref h_net, .ref a_now, .ref a_don, .ref a_wri, .ref a_per, .ref a_tho, .ref a_aft])), (h_net, .inr (1, [.ref h_ends, .int nc, .int w43, .int w44, .int so, .int lo])), (h_ends, .inl (cI, 24, .inl w42)), (h_t, .inl (cI, 24, .inl ft)), (h_g, .inl (cI, 7, .inl fg))] H → va_D A [(h_x, .inr (4, [.ref h_net, .ref a_now, .ref a_don, .ref a_wri, .ref a_per, .ref a_tho, .ref a_aft])), (h_net, .inr (1, [.ref h_ends, .int nc, .int w43, .int w44, .int so, .int lo])), (h_ends, .inl (cI, 24, .inl w42)), (h_t, .inl (cI, 24, .inl ft)), (h_g, .inl (cI, 7, .inl fg))] → va_S A s.heap H locs → lv_has ls 7 [(6, .int y32), (5, .int v30), (4, .int v28), (0, .ref h_x), (1, .int p1), (2, .ref h_t), (3, .ref h_g)] → W p l e (headSpec wsL_builds rmL_builds).room s m (([.ref h_x, .int p1, .ref h_t, .ref h_g] : List Value).toArray) below meth c H locs (0 + 3 + 3) (0 + 18 + 18) QQ (F0 m 270 ls [.int y49, .int (v28 + ((16 : Int32) * v30)), .int (fg 1), .ref h_t])) h (fun y49 h H locs ls hP hD hS hl => ?_) (fun g270_50 hg270_51 h => ?_)
                  · refine lv_iadd hx hb dL_builds_270 ?_
                    obtain ⟨hi52, h⟩ := gin_e h
                    refine va_iast hx hb hK hP hD hS 3 0 rfl rfl hi52 dL_builds_271 (fun H locs hP hD hS => ?_)
                    have hP : va_P D vwCl [(h_x, .inr (4, [.ref h_net, .ref a_now, .ref a_don, .ref a_wri, .ref a_per, .ref a_tho, .ref a_aft])), (h_net, .inr (1, [.ref h_ends, .int nc, .int w43, .int w44, .int so, .int lo])), (h_ends, .inl (cI, 24, .inl w42)), (h_t, .inl (cI, 24, .inl (upd ft (fg 1).toNatClampNeg ((v28 + ((16 : Int32) * v30)) + y49)))), (h_g, .inl (cI, 7, .inl fg))] H := hP
                    have hD : va_D A [(h_x, .inr (4, [.ref h_net, .ref a_now, .ref a_don, .ref a_wri, .ref a_per, .ref a_tho, .ref a_aft])), (h_net, .inr (1, [.ref h_ends, .int nc, .int w43, .int w44, .int so, .int lo])), (h_ends, .inl (cI, 24, .inl w42)), (h_t, .inl (cI, 24, .inl (upd ft (fg 1).toNatClampNeg ((v28 + ((16 : Int32) * v30)) + y49)))), (h_g, .inl (cI, 7, .inl fg))] := hD
                    refine lv_aload_n hx hb dL_builds_272 rfl (lv_at hl 6 rfl) ?_
                    refine lv_iconst (v := 1) hx hb dL_builds_273 (by decide) ?_
                    refine lv_dup2_11 hx hb dL_builds_274 rfl rfl ?_
                    refine va_iald hx hb hK hP 4 0 rfl rfl (by unfold vp_in; decide) dL_builds_275 ?_
                    refine lv_iconst (v := 1) hx hb dL_builds_276 (by decide) ?_
                    refine lv_iadd hx hb dL_builds_277 ?_
                    refine va_iast hx hb hK hP hD hS 4 0 rfl rfl (by unfold vp_in; decide) dL_builds_278 (fun H locs hP hD hS => ?_)
                    have hP : va_P D vwCl [(h_x, .inr (4, [.ref h_net, .ref a_now, .ref a_don, .ref a_wri, .ref a_per, .ref a_tho, .ref a_aft])), (h_net, .inr (1, [.ref h_ends, .int nc, .int w43, .int w44, .int so, .int lo])), (h_ends, .inl (cI, 24, .inl w42)), (h_t, .inl (cI, 24, .inl (upd ft (fg 1).toNatClampNeg ((v28 + ((16 : Int32) * v30)) + y49)))), (h_g, .inl (cI, 7, .inl (upd fg 1 ((fg 1) + 1))))] H := hP
                    have hD : va_D A [(h_x, .inr (4, [.ref h_net, .ref a_now, .ref a_don, .ref a_wri, .ref a_per, .ref a_tho, .ref a_aft])), (h_net, .inr (1, [.ref h_ends, .int nc, .int w43, .int w44, .int so, .int lo])), (h_ends, .inl (cI, 24, .inl w42)), (h_t, .inl (cI, 24, .inl (upd ft (fg 1).toNatClampNeg ((v28 + ((16 : Int32) * v30)) + y49)))), (h_g, .inl (cI, 7, .inl (upd fg 1 ((fg 1) + 1))))] := hD
                    refine lv_aload_n hx hb dL_builds_279 rfl (lv_at hl 3 rfl) ?_
                    refine lv_iload hx hb dL_builds_280 (lv_at hl 2 rfl) ?_
                    refine lv_iload hx hb dL_builds_282 (lv_at hl 1 rfl) ?_
                    refine lv_iload hx hb dL_builds_284 (lv_at hl 0 rfl) ?_
                    obtain ⟨k53, w54, w55, w56, hq57, h⟩ := bd4_e h
                    refine zz_hS (As := [.ref h_x, .int v28, .int v30, .int y32]) (wr := [(h_t, .inl (cI, 24, .inl (upd ft (fg 1).toNatClampNeg ((v28 + ((16 : Int32) * v30)) + y49)))), (h_g, .inl (cI, 7, .inl (upd fg 1 ((fg 1) + 1))))]) (w1 := [(h_x, .inr (4, [.ref h_net, .ref a_now, .ref a_don, .ref a_wri, .ref a_per, .ref a_tho, .ref a_aft])), (h_net, .inr (1, [.ref h_ends, .int nc, .int w55, .int w56, .int so, .int lo])), (h_ends, .inl (cI, 24, .inl w54))]) (wt' := [(h_x, .inr (4, [.ref h_net, .ref a_now, .ref a_don, .ref a_wri, .ref a_per, .ref a_tho, .ref a_aft])), (h_net, .inr (1, [.ref h_ends, .int nc, .int w55, .int w56, .int so, .int lo])), (h_ends, .inl (cI, 24, .inl w54)), (h_t, .inl (cI, 24, .inl (upd ft (fg 1).toNatClampNeg ((v28 + ((16 : Int32) * v30)) + y49)))), (h_g, .inl (cI, 7, .inl (upd fg 1 ((fg 1) + 1))))]) (wc := [(h_x, .inr (4, [.ref h_net, .ref a_now, .ref a_don, .ref a_wri, .ref a_per, .ref a_tho, .ref a_aft])), (h_net, .inr (1, [.ref h_ends, .int nc, .int w43, .int w44, .int so, .int lo])), (h_ends, .inl (cI, 24, .inl w42))]) (rv := (some (.int k53))) ⟨hx, hb, hml, hown, hts⟩ (kL_addSwitch l hl0 D cI cZ cL H.size h_x a_now a_don a_wri a_per a_tho a_aft h_net h_ends nc w43 w44 so lo w42 v28 v30 y32 N hq57) (vx_cwSW 4 hts gL_builds_L_addSwitch rfl rfl rfl (by decide +kernel) ⟨Nat.le_of_ble_eq_true rfl, Nat.le_of_ble_eq_true rfl⟩) hP hD hS hA hKK hKS hKZ hKX [0, 1, 2] [3, 4] [2, 3, 4, 0, 1] rfl rfl (by decide) (by decide) rfl (by decide) (by decide) rfl hl.1 rfl (Nat.le_of_ble_eq_true rfl) dL_builds_286 ⟨by show 0 + 3 + 3 + 3 ≤ 16; omega, by show 0 + 18 + 18 + 18 ≤ 96; omega⟩ (fun H locs hP hD hS hz9 => ?_)
                    show W p l e _ s m _ below meth c H locs _ _ QQ (F0 m 289 ls (.int k53 :: []))
                    refine lv_aload_n hx hb dL_builds_289 rfl (lv_at hl 6 rfl) ?_
                    refine lv_iconst (v := 1) hx hb dL_builds_290 (by decide) ?_
                    refine va_iald hx hb hK hP 4 0 rfl rfl (by unfold vp_in; decide) dL_builds_291 ?_
                    refine lv_iconst (v := 1) hx hb dL_builds_292 (by decide) ?_
                    refine lv_isub hx hb dL_builds_293 ?_
                    refine lv_icmp_ne (tgt := 301) hx hb dL_builds_294 (by decide) (fun c58 => ?_) (fun c58 => ?_)
                    · have h := it_f h c58
                      cases h
                    · have h := it_t h c58
                      refine lv_iconst (v := 1) hx hb dL_builds_297 (by decide) ?_
                      refine lv_goto (tgt := 302) hx hb dL_builds_298 (by decide) ?_
                      cases h
                      rw [hQQ]
                      refine W.widen (k := 16) (n := 96) (by omega) (by omega) ?_
                      exact W.zret (v := 1) hx hb hr (by decide) (fun t ht hW => ⟨rfl, by rw [ht]; exact hP, hD, hS.F ht⟩) hS.2.2 dL_builds_302
                  · refine lv_if_eq (tgt := 269) hx hb dL_builds_260 (by decide) (fun c59 => ?_) (fun c59 => ?_)
                    · have h := it_t h c59
                      refine lv_iconst (v := 0) hx hb dL_builds_269 (by decide) ?_
                      exact hg270_51 0 h H locs ls hP hD hS (lv_sub hl [0, 1, 2, 3, 4, 5, 6] rfl)
                    · have h := it_f h c59
                      refine lv_sipush (v := 256) hx hb dL_builds_263 (by decide) ?_
                      refine lv_goto (tgt := 270) hx hb dL_builds_266 (by decide) ?_
                      exact hg270_51 256 h H locs ls hP hD hS (lv_sub hl [0, 1, 2, 3, 4, 5, 6] rfl)
                · have h := it_t h c48
                  refine lv_aload_n hx hb dL_builds_225 rfl (lv_at hl 3 rfl) ?_
                  refine lv_iload hx hb dL_builds_226 (lv_at hl 2 rfl) ?_
                  refine lv_iload hx hb dL_builds_228 (lv_at hl 1 rfl) ?_
                  refine lv_iload hx hb dL_builds_230 (lv_at hl 0 rfl) ?_
                  obtain ⟨k60, w61, w62, w63, hq64, h⟩ := bd4_e h
                  refine zz_hS (As := [.ref h_x, .int v28, .int v30, .int y32]) (wr := [(h_t, .inl (cI, 24, .inl ft)), (h_g, .inl (cI, 7, .inl fg))]) (w1 := [(h_x, .inr (4, [.ref h_net, .ref a_now, .ref a_don, .ref a_wri, .ref a_per, .ref a_tho, .ref a_aft])), (h_net, .inr (1, [.ref h_ends, .int nc, .int w62, .int w63, .int so, .int lo])), (h_ends, .inl (cI, 24, .inl w61))]) (wt' := [(h_x, .inr (4, [.ref h_net, .ref a_now, .ref a_don, .ref a_wri, .ref a_per, .ref a_tho, .ref a_aft])), (h_net, .inr (1, [.ref h_ends, .int nc, .int w62, .int w63, .int so, .int lo])), (h_ends, .inl (cI, 24, .inl w61)), (h_t, .inl (cI, 24, .inl ft)), (h_g, .inl (cI, 7, .inl fg))]) (wc := [(h_x, .inr (4, [.ref h_net, .ref a_now, .ref a_don, .ref a_wri, .ref a_per, .ref a_tho, .ref a_aft])), (h_net, .inr (1, [.ref h_ends, .int nc, .int w43, .int w44, .int so, .int lo])), (h_ends, .inl (cI, 24, .inl w42))]) (rv := (some (.int k60))) ⟨hx, hb, hml, hown, hts⟩ (kL_addSwitch l hl0 D cI cZ cL H.size h_x a_now a_don a_wri a_per a_tho a_aft h_net h_ends nc w43 w44 so lo w42 v28 v30 y32 N hq64) (vx_cwSW 4 hts gL_builds_L_addSwitch rfl rfl rfl (by decide +kernel) ⟨Nat.le_of_ble_eq_true rfl, Nat.le_of_ble_eq_true rfl⟩) hP hD hS hA hKK hKS hKZ hKX [0, 1, 2] [3, 4] [2, 3, 4, 0, 1] rfl rfl (by decide) (by decide) rfl (by decide) (by decide) rfl hl.1 rfl (Nat.le_of_ble_eq_true rfl) dL_builds_232 ⟨by show 0 + 3 + 3 + 3 ≤ 16; omega, by show 0 + 18 + 18 + 18 ≤ 96; omega⟩ (fun H locs hP hD hS hz9 => ?_)
                  show W p l e _ s m _ below meth c H locs _ _ QQ (F0 m 235 ls (.int k60 :: []))
                  refine lv_bipush (v := (-73)) hx hb dL_builds_235 (by decide) ?_
                  refine lv_icmp_ne (tgt := 244) hx hb dL_builds_237 (by decide) (fun c65 => ?_) (fun c65 => ?_)
                  · have h := it_f h c65
                    cases h
                  · have h := it_t h c65
                    refine lv_iconst (v := 1) hx hb dL_builds_240 (by decide) ?_
                    refine lv_goto (tgt := 245) hx hb dL_builds_241 (by decide) ?_
                    cases h
                    rw [hQQ]
                    refine W.widen (k := 16) (n := 96) (by omega) (by omega) ?_
                    exact W.zret (v := 1) hx hb hr (by decide) (fun t ht hW => ⟨rfl, by rw [ht]; exact hP, hD, hS.F ht⟩) hS.2.2 dL_builds_245
              · have h := it_t h c47
                refine lv_aload_n hx hb dL_builds_196 rfl (lv_at hl 3 rfl) ?_
                refine lv_iload hx hb dL_builds_197 (lv_at hl 2 rfl) ?_
                refine lv_iload hx hb dL_builds_199 (lv_at hl 2 rfl) ?_
                refine lv_iload hx hb dL_builds_201 (lv_at hl 0 rfl) ?_
                obtain ⟨k66, w67, w68, w69, hq70, h⟩ := bd4_e h
                refine zz_hS (As := [.ref h_x, .int v28, .int v28, .int y32]) (wr := [(h_t, .inl (cI, 24, .inl ft)), (h_g, .inl (cI, 7, .inl fg))]) (w1 := [(h_x, .inr (4, [.ref h_net, .ref a_now, .ref a_don, .ref a_wri, .ref a_per, .ref a_tho, .ref a_aft])), (h_net, .inr (1, [.ref h_ends, .int nc, .int w68, .int w69, .int so, .int lo])), (h_ends, .inl (cI, 24, .inl w67))]) (wt' := [(h_x, .inr (4, [.ref h_net, .ref a_now, .ref a_don, .ref a_wri, .ref a_per, .ref a_tho, .ref a_aft])), (h_net, .inr (1, [.ref h_ends, .int nc, .int w68, .int w69, .int so, .int lo])), (h_ends, .inl (cI, 24, .inl w67)), (h_t, .inl (cI, 24, .inl ft)), (h_g, .inl (cI, 7, .inl fg))]) (wc := [(h_x, .inr (4, [.ref h_net, .ref a_now, .ref a_don, .ref a_wri, .ref a_per, .ref a_tho, .ref a_aft])), (h_net, .inr (1, [.ref h_ends, .int nc, .int w43, .int w44, .int so, .int lo])), (h_ends, .inl (cI, 24, .inl w42))]) (rv := (some (.int k66))) ⟨hx, hb, hml, hown, hts⟩ (kL_addSwitch l hl0 D cI cZ cL H.size h_x a_now a_don a_wri a_per a_tho a_aft h_net h_ends nc w43 w44 so lo w42 v28 v28 y32 N hq70) (vx_cwSW 4 hts gL_builds_L_addSwitch rfl rfl rfl (by decide +kernel) ⟨Nat.le_of_ble_eq_true rfl, Nat.le_of_ble_eq_true rfl⟩) hP hD hS hA hKK hKS hKZ hKX [0, 1, 2] [3, 4] [2, 3, 4, 0, 1] rfl rfl (by decide) (by decide) rfl (by decide) (by decide) rfl hl.1 rfl (Nat.le_of_ble_eq_true rfl) dL_builds_203 ⟨by show 0 + 3 + 3 + 3 ≤ 16; omega, by show 0 + 18 + 18 + 18 ≤ 96; omega⟩ (fun H locs hP hD hS hz9 => ?_)
                show W p l e _ s m _ below meth c H locs _ _ QQ (F0 m 206 ls (.int k66 :: []))
                refine lv_bipush (v := (-71)) hx hb dL_builds_206 (by decide) ?_
                refine lv_icmp_ne (tgt := 215) hx hb dL_builds_208 (by decide) (fun c71 => ?_) (fun c71 => ?_)
                · have h := it_f h c71
                  cases h
                · have h := it_t h c71
                  refine lv_iconst (v := 1) hx hb dL_builds_211 (by decide) ?_
                  refine lv_goto (tgt := 216) hx hb dL_builds_212 (by decide) ?_
                  cases h
                  rw [hQQ]
                  refine W.widen (k := 16) (n := 96) (by omega) (by omega) ?_
                  exact W.zret (v := 1) hx hb hr (by decide) (fun t ht hW => ⟨rfl, by rw [ht]; exact hP, hD, hS.F ht⟩) hS.2.2 dL_builds_216
            · have h := it_f h c46
              cases h
        · refine lv_if_le (tgt := 154) hx hb dL_builds_147 (by decide) (fun c72 => ?_) (fun c72 => ?_)
          · have h := it_t h c72
            refine lv_iconst (v := 0) hx hb dL_builds_154 (by decide) ?_
            exact hg155_34 0 h H locs ls hP hD hS (lv_sub hl [0, 1, 2, 3, 4, 5] rfl)
          · have h := it_f h c72
            refine lv_iconst (v := 1) hx hb dL_builds_150 (by decide) ?_
            refine lv_goto (tgt := 155) hx hb dL_builds_151 (by decide) ?_
            exact hg155_34 1 h H locs ls hP hD hS (lv_sub hl [0, 1, 2, 3, 4, 5] rfl)
      · refine lv_if_ne (tgt := 119) hx hb dL_builds_11 (by decide) (fun c73 => ?_) (fun c73 => ?_)
        · have h := it_f h c73
          exact hg119_27 h H locs ls hP hD hS (lv_sub hl [0, 1, 2, 3] rfl)
        · have h := it_t h c73
          refine lv_aload_n hx hb dL_builds_14 rfl (lv_at hl 3 rfl) ?_
          refine lv_iconst (v := 0) hx hb dL_builds_15 (by decide) ?_
          refine va_iald hx hb hK hP 4 0 rfl rfl (by unfold vp_in; decide) dL_builds_16 ?_
          refine lv_bipush (v := 16) hx hb dL_builds_17 (by decide) ?_
          refine lv_icmp_ge (tgt := 119) hx hb dL_builds_19 (by decide) (fun c74 => ?_) (fun c74 => ?_)
          · have h := it_t h c74
            exact hg119_27 h H locs ls hP hD hS (lv_sub hl [0, 1, 2, 3] rfl)
          · have h := it_f h c74
            exact hg22_2 h H locs ls hP hD hS (lv_sub hl [0, 1, 2, 3] rfl)
