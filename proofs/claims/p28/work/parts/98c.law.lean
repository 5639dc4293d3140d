/-! the law's loop -/
theorem c3i : ∀ i, i < 130 → (3 : Int32) * nI i = nI (3 * i) ∧ (3 : Int32) * nI i + 1 = nI (3 * i + 1) ∧ (3 : Int32) * nI i + 2 = nI (3 * i + 2) := by decide +kernel
theorem l_cell {N L j : Nat} {xs : Nat → Int32} (hL : L < 2 ^ 31) (hj : j < 2 ^ 31) : ∃ v, fL_cell N L xs (nI j) = some v := by
  unfold fL_cell
  by_cases z : L ≤ j
  · exact ⟨_, if_pos (nI_le z hj)⟩
  · rw [if_neg (nI_gt (show j < L by omega) hL), gin_ok (by omega) hL]
    exact ⟨_, rfl⟩
theorem INV_0 {ends dac rac hol ft fc fl fq fh fg : Nat → Int32} {a b : Nat → Nat} (hF : FG 0 0 0 0 0 0 0 fg) (hS : SD fc 0 0 0) : INV 0 0 a b 0 0 0 ends 0 0 0 0 0 0 dac rac hol ft fc fl fq fh fg := by
  have i0 : ∀ m, inN m 0 := fun m v hv => by rw [b_0] at hv; cases hv
  have hG : GR 0 0 a b := ⟨by omega, by omega, fun s hs => absurd hs (Nat.not_lt_zero s)⟩
  refine ⟨hG, fun s hs => absurd hs (Nat.not_lt_zero s), i0 0, ⟨i0 0, i0 0, i0 0, i0 0, fun v hv => hv, fun v h => ?_⟩, by omega, fun j hj => absurd hj (Nat.not_lt_zero j), by omega, fun j hj => absurd hj (Nat.not_lt_zero j), by omega, fun j hj => absurd hj (Nat.not_lt_zero j), hF, fun j hj => absurd hj (Nat.not_lt_zero j), hS, fun j hj => absurd hj (Nat.not_lt_zero j), fun j hj => absurd hj (Nat.not_lt_zero j), fun j hj => absurd hj (Nat.not_lt_zero j)⟩
  obtain ⟨u, hu, -⟩ := (CL_bt hG (i0 0)).mp h.1
  rw [b_0] at hu
  cases hu
set_option maxHeartbeats 4000000 in
theorem law_go {N L : Nat} {xs : Nat → Int32} {w1 w2 w3 w4 w5 w6 : Int32} {w8 w9 w10 : Nat → Int32} (hL : L ≤ 260) (hN : 300 ≤ N) : fL_law_84 N L xs w1 w2 w3 w4 w5 w6 (fun _ => 0) w8 w9 w10 = some () := by
  unfold fL_law_84
  refine it32_w (n := 130) (fun i jj x12 w13 w14 w15 w16 w17 w18 w19 w20 w21 w22 w23 w24 w25 w26 w27 w28 w29 w30 w31 w32 w33 w34 w35 w36 w37 w38 w39 w40 w41 w42 => jj = i ∧ x12 = nI i ∧ ∃ (n k : Nat) (a b : Nat → Nat) (d r g : Nat), w13 = nI n ∧ w14 = nI k ∧ w22 = nI d ∧ w24 = nI r ∧ w27 = nI g ∧ INV n k a b d r g w18 w15 w16 w17 w19 w20 w21 w23 w25 w26 w34 w35 w38 w39 w40 w42 ∧ (0 < i → 0 < n)) (fun R => R = some ()) ?_ N 0 0 0 0 0 0 0 0 (fun _ => 0) 0 0 0 0 (fun _ => 0) 0 (fun _ => 0) (fun _ => 0) 0 w1 w2 w3 w4 w5 w6 (fun _ => 0) (fun _ => 0) w8 w9 (fun _ => 0) (fun _ => 0) (fun _ => 0) w10 (fun _ => 0) (Nat.zero_le _) (by omega) ⟨rfl, rfl, 0, 0, fun _ => 0, fun _ => 0, 0, 0, 0, rfl, rfl, rfl, rfl, rfl, INV_0 ⟨rfl, rfl, rfl, rfl, rfl, rfl, rfl⟩ ⟨rfl, rfl, rfl⟩, fun h => absurd h (Nat.not_lt_zero 0)⟩
  rintro G i jj x12 w13 w14 w15 w16 w17 w18 w19 w20 w21 w22 w23 w24 w25 w26 w27 w28 w29 w30 w31 w32 w33 w34 w35 w36 w37 w38 w39 w40 w41 w42 hi ⟨q1, q2, n, k, a, b, d, r, g, q3, q4, q5, q6, q7, hI, hpos⟩
  rw [q1, q2, q3, q4, q5, q6, q7, gd_lt (show i < 140 by omega)]
  by_cases z : i < 130
  · have c130 : ¬ (130 : Int32) ≤ nI i := nI_gt (i := i) (n := 130) z (by omega)
    obtain ⟨e1, e2, e3⟩ := c3i i z
    obtain ⟨v47, f1⟩ := l_cell (N := N) (L := L) (j := 3 * i) (xs := xs) (by omega) (by omega)
    obtain ⟨v49, f2⟩ := l_cell (N := N) (L := L) (j := 3 * i + 1) (xs := xs) (by omega) (by omega)
    obtain ⟨v51, f3⟩ := l_cell (N := N) (L := L) (j := 3 * i + 2) (xs := xs) (by omega) (by omega)
    obtain ⟨j, hj, ej⟩ := l_low (n := 24) (N := N) (v := v47) (by omega) (by omega)
    have ej : fL_low N v47 24 = some (nI j) := ej
    have fin : ∀ (n k : Nat) (a b : Nat → Nat) (d r g : Nat) (ends : Nat → Int32) (br so lo c e o : Int32) (dac rac hol ft fc fl fq fh fg : Nat → Int32) (tc te to ac ae ao : Int32) (fd fm ff : Nat → Int32), INV n k a b d r g ends br so lo c e o dac rac hol ft fc fl fq fh fg → 0 < n →
        (i < 130 ∧ ∃ (y1 : Nat) (y2 y3 y4 y5 y6 y7 : Int32) (y8 : Nat → Int32) (y9 y10 y11 y12 : Int32) (y13 : Nat → Int32) (y14 : Int32) (y15 y16 : Nat → Int32) (y17 y18 y19 y20 y21 y22 y23 : Int32) (y24 y25 y26 y27 y28 y29 y30 y31 y32 : Nat → Int32), (y1 = i + 1 ∧ y2 = nI (i + 1) ∧ ∃ (n k : Nat) (a b : Nat → Nat) (d r g : Nat), y3 = nI n ∧ y4 = nI k ∧ y12 = nI d ∧ y14 = nI r ∧ y17 = nI g ∧ INV n k a b d r g y8 y5 y6 y7 y9 y10 y11 y13 y15 y16 y24 y25 y28 y29 y30 y32 ∧ (0 < i + 1 → 0 < n)) ∧
          fL_law_195 N 1 (nI n) (nI k) br so lo ends c e o (nI d) dac (nI r) rac (nI g) hol tc te to ac ae ao ft fc fd fm fl fq fh ff fg v47 v49 G i (nI i) = G y1 y2 y3 y4 y5 y6 y7 y8 y9 y10 y11 y12 y13 y14 y15 y16 y17 y18 y19 y20 y21 y22 y23 y24 y25 y26 y27 y28 y29 y30 y31 y32) := by
      intro n k a b d r g ends br so lo c e o dac rac hol ft fc fl fq fh fg tc te to ac ae ao fd fm ff hI hn
      obtain ⟨t1, t2, t3, t4, t5, t6, fd', fm', ff', et⟩ := x_told (N := N) (tc := tc) (te := te) (to := to) (ac := ac) (ae := ae) (ao := ao) (fd := fd) (fm := fm) (ff := ff) (p1 := (v47 >>> (5 &&& 31)) ^^^ v49) hI hN
      unfold fL_law_195
      rw [if_neg (by decide), et, bd10_ok, nI_1]
      exact ⟨z, _, _, _, _, _, _, _, _, _, _, _, _, _, _, _, _, _, _, _, _, _, _, _, _, _, _, _, _, _, _, _, _, ⟨rfl, rfl, n, k, a, b, d, r, g, rfl, rfl, rfl, rfl, rfl, hI, fun _ => hn⟩, rfl⟩
    rw [if_neg c130]
    unfold fL_law_95
    rw [e2, e3, e1, f1, bd1_ok, f2, bd1_ok, f3, bd1_ok, ej, bd1_ok]
    unfold fL_law_138
    have c14 : nI i < 14 ↔ i < 14 := nI_ltI (b := 14) (by omega) (by omega)
    by_cases y1 : i < 14
    · obtain ⟨n', k', a', b', ends', br', so', lo', ft', fg', eb, hn', hI'⟩ := x_builds (N := N) (p1 := v49) hI
      rw [jn31_to 1 (nI n') (nI k') br' so' lo' ends' w19 w20 w21 (nI d) w23 (nI r) w25 w26 (nI g) w28 w29 w30 w31 w32 w33 ft' w35 w36 w37 w38 w39 w40 w41 fg' (fun gg => (if_pos (c14.mpr y1)).trans (by rw [eb, bd8_ok]))]
      exact Or.inr (fin _ _ _ _ _ _ _ _ _ _ _ _ _ _ _ _ _ _ _ _ _ _ _ _ _ _ _ _ _ _ _ _ hI' hn')
    · by_cases y2 : nI j = 23 ∧ (v47 &&& 192) = 0
      · obtain ⟨n', k', a', b', ends', br', so', lo', ft', fg', eb, hn', hI'⟩ := x_builds (N := N) (p1 := v49) hI
        rw [jn31_to 1 (nI n') (nI k') br' so' lo' ends' w19 w20 w21 (nI d) w23 (nI r) w25 w26 (nI g) w28 w29 w30 w31 w32 w33 ft' w35 w36 w37 w38 w39 w40 w41 fg' (fun gg => (if_neg (fun v => y1 (c14.mp v))).trans (jn0_out (fun g2 => (if_pos y2.1).trans ((if_pos y2.2).trans (by rw [eb, bd8_ok])))))]
        exact Or.inr (fin _ _ _ _ _ _ _ _ _ _ _ _ _ _ _ _ _ _ _ _ _ _ _ _ _ _ _ _ _ _ _ _ hI' hn')
      · obtain ⟨c', e', o', d', dac', r', rac', hol', g', x', y', z', fc', fm', fl', fq', fh', fg', ea, hI'⟩ := x_acts (N := N) (p1 := nI j) (p2 := v49) (p3 := v51) (ac := w31) (ae := w32) (ao := w33) (fm := w37) hI (hpos (by omega)) hN
        rw [jn31_to 1 (nI n) (nI k) w15 w16 w17 w18 c' e' o' (nI d') dac' (nI r') rac' hol' (nI g') w28 w29 w30 x' y' z' w34 fc' w36 fm' fl' fq' fh' w41 fg' (fun gg => (if_neg (fun v => y1 (c14.mp v))).trans ((jn0_to (fun g2 => by
          by_cases y3 : nI j = 23
          · rw [if_pos y3, if_neg (fun v => y2 ⟨y3, v⟩)]
          · rw [if_neg y3])).trans (by rw [ea, bd18_ok])))]
        exact Or.inr (fin _ _ _ _ _ _ _ _ _ _ _ _ _ _ _ _ _ _ _ _ _ _ _ _ _ _ _ _ _ _ _ _ hI' (hpos (by omega)))
  · have : i = 130 := by omega
    subst this
    exact Or.inl (if_pos (show (130 : Int32) ≤ nI 130 by decide))
theorem law_all {L : Nat} {xs : Nat → Int32} (hL : L ≤ 260) : law_ends L xs := by
  refine ⟨1000, ?_⟩
  have h := x_told (N := 1000) (n := 0) (k := 0) (a := fun _ => 0) (b := fun _ => 0) (d := 0) (r := 0) (g := 0) (ends := fun _ => 0) (br := 0) (so := 0) (lo := 0) (c := 0) (e := 0) (o := 0) (dac := fun _ => 0) (rac := fun _ => 0) (hol := fun _ => 0) (ft := fun _ => 0) (fc := fun _ => 0) (fl := fun _ => 0) (fq := fun _ => 0) (fh := fun _ => 0) (fg := fun _ => 0) (fd := fun _ => 0) (fm := fun _ => 0) (ff := fun _ => 0) (tc := 0) (te := 0) (to := 0) (ac := 0) (ae := 0) (ao := 0) (p1 := 0) (INV_0 ⟨rfl, rfl, rfl, rfl, rfl, rfl, rfl⟩ ⟨rfl, rfl, rfl⟩) (by omega)
  rw [nI_0] at h
  obtain ⟨t1, t2, t3, t4, t5, t6, fd', fm', ff', et⟩ := h
  unfold fL_law
  rw [et, bd10_ok]
  exact law_go hL (by omega)
