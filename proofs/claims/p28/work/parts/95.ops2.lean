/-! write, erase, writeBack, handBack, permit -/
section OPS2
variable {n k : Nat} {a b : Nat → Nat} {ends : Nat → Int32} {br so lo c e o : Int32} {N d r g q w : Nat} {hol dac rac ft fc fl fq fh fg fm : Nat → Int32}
theorem x_write {ac ae ao : Int32} (hI : INV n k a b d r g ends br so lo c e o dac rac hol ft fc fl fq fh fg) (hA : ACT n k q w) (hN : 300 ≤ N) :
    AOK n k a b ends br so lo ft (fL_acts_311 N (nI n) (nI k) br so lo (nI r) rac fg (nI (100 * q + w)) c e o (nI d) dac hol (nI g) ac ae ao fc fm fl fq fh) := by
  obtain ⟨hG, he, hB, hH, hd, hRd, hr, hRr, hg, hh, hF, hT, hS, hl, hq, hfh⟩ := id hI
  obtain ⟨h0, h1, h2, h3, h4, h5, h6⟩ := id hF
  have hn := hG.1
  have hk := hG.2.1
  have hw := hA.w32 hG
  have hq5 := hA.1
  have eq := a_q q (by omega) w hw
  have ew := a_w q (by omega) w hw
  unfold fL_acts_311
  rw [lW_kind (Or.inr (by decide)), bd3_ok, if_pos rfl, h1, lW_1 hk (NIN_self (by omega)), bd3_ok, if_pos rfl, h0, lW_3 hn (NIN_self (by omega)), bd3_ok, if_pos rfl]
  unfold fL_acts_353
  rw [ew, eq, h5]
  by_cases h30 : r = 30
  · subst h30
    rw [if_pos (show nI 30 = 30 from rfl), lW_full hG hA, bd3_ok, if_pos rfl]
    exact ⟨c, e, o, d, dac, 30, rac, hol, g, ac, ae, ao, fc, fm, fl, fq, fh, fg, rfl, hI⟩
  · rw [if_neg (show ¬ nI r = 30 from fun z => h30 ((nI_eq (b := 30) (by omega) (by omega)).mp z)), gin_ok (show r < 30 by omega) (by omega), lW_ok hG hA (by omega), bd3_ok, nI_1, upd_s, if_pos rfl, nI_j (by omega)]
    exact ⟨c, e, o, d, dac, r + 1, _, hol, g, ac, ae, ao, fc, fm, fl, _, fh, _, rfl, hG, he, hB, hH, hd, hRd, by omega, ROWs_app hRr ⟨q, w, hA, rfl⟩, hg, hh, FG_5 hF, hT, hS, hl, eq_app hq, hfh⟩
theorem x_erase {p3 ac ae ao : Int32} (hI : INV n k a b d r g ends br so lo c e o dac rac hol ft fc fl fq fh fg) (hN : 300 ≤ N) :
    AOK n k a b ends br so lo ft (fL_acts_437 N p3 c e o (nI d) dac (nI r) rac hol (nI g) ac ae ao fc fm fl fq fh fg) := by
  obtain ⟨hG, he, hB, hH, hd, hRd, hr, hRr, hg, hh, hF, hT, hS, hl, hq, hfh⟩ := id hI
  obtain ⟨h0, h1, h2, h3, h4, h5, h6⟩ := id hF
  unfold fL_acts_437
  by_cases z : (p3 &&& 6) ≤ 0
  · rw [if_pos z]
    unfold fL_acts_470
    obtain ⟨W, hW⟩ : ∃ W, W = min d 30 := ⟨_, rfl⟩
    have eW : ∀ (ρ : Type) (gg : Int32 → Option ρ), (if (30 : Int32) ≤ fg 4 then gg 30 else gg (fg 4)) = gg (nI W) := fun ρ gg => by
      rw [h4]
      by_cases y : 30 ≤ d
      · rw [if_pos (show (30 : Int32) ≤ nI d from nI_le (a := 30) y (by omega)), show W = 30 by omega]; rfl
      · rw [if_neg (show ¬ (30 : Int32) ≤ nI d from nI_gt (i := d) (n := 30) (by omega) (by omega)), show W = d by omega]
    rw [jn1_to (nI W) (eW _)]
    obtain ⟨rac', f1, f2⟩ := c_wback (N := N) (rac := rac) (r := r) hG (by omega) hr hRd hW (by omega)
    have F' : FG n k so lo d W g (upd fg 5 (nI W)) := FG_5 hF
    obtain ⟨g0, g1, g2, g3, g4, g5, g6⟩ := id F'
    generalize upd fg 5 (nI W) = fg' at F' g0 g1 g2 g3 g4 g5 g6 ⊢
    refine it19_w (n := W) (fun i x224 w225 w226 w227 w228 w229 w230 w231 w232 w233 w234 w235 w236 w237 w238 w239 w240 w241 w242 => x224 = nI i ∧ w225 = c ∧ w226 = e ∧ w227 = o ∧ w228 = nI d ∧ w229 = dac ∧ w230 = nI r ∧ w231 = rac ∧ w232 = hol ∧ w233 = nI g ∧ w237 = fc ∧ w239 = fl ∧ w241 = fh ∧ w242 = fg' ∧ ∀ j, j < i → w240 j = opx (dac (d - 1 - j))) (AOK n k a b ends br so lo ft) ?_ N 0 0 c e o (nI d) dac (nI r) rac hol (nI g) ac ae ao fc fm fl fq fh fg' (Nat.zero_le _) (by omega) ⟨rfl, rfl, rfl, rfl, rfl, rfl, rfl, rfl, rfl, rfl, rfl, rfl, rfl, rfl, fun j hj => absurd hj (Nat.not_lt_zero j)⟩
    rintro G i x224 w225 w226 w227 w228 w229 w230 w231 w232 w233 w234 w235 w236 w237 w238 w239 w240 w241 w242 hi ⟨q1, q2, q3, q4, q5, q6, q7, q8, q9, q10, q11, q12, q13, q14, q15⟩
    rw [q1, q2, q3, q4, q5, q6, q7, q8, q9, q10, q11, q12, q13, q14, g5, g4]
    by_cases y : i < W
    · have hin : d - 1 - i < d := by omega
      refine Or.inr ⟨y, nI (i + 1), c, e, o, nI d, dac, nI r, rac, hol, nI g, w234, w235, w236, fc, w238, fl, upd w240 i (opx (dac (d - 1 - i))), fh, fg', ⟨rfl, rfl, rfl, rfl, rfl, rfl, rfl, rfl, rfl, rfl, rfl, rfl, rfl, rfl, fun j hj => ?_⟩, ?_⟩
      · by_cases q : j = i
        · rw [q, upd_s]
        · rw [upd_o q, q15 j (by omega)]
      · rw [if_neg (nI_gt y (by omega)), nI_m1 (show i < d by omega), gin_ok (show d - 1 - i < 60 by omega) (by omega), nI_j (show d - 1 - i < 2 ^ 31 by omega), hl _ hin, l_opx hG (hRd _ hin), bd1_ok, gin_ok (show i < 30 by omega) (by omega), nI_j (show i < 2 ^ 31 by omega), nI_1]
    · have hiW : i = W := by omega
      subst hiW
      rw [if_pos (nI_le (Nat.le_refl _) (by omega)), f1, bd3_ok, if_pos rfl]
      exact Or.inl ⟨c, e, o, d, dac, i, rac', hol, g, w234, w235, w236, fc, w238, fl, w240, fh, fg', rfl, hG, he, hB, hH, hd, hRd, by omega, fun j hj => by rw [f2 j hj]; exact opx_r hG (hRd _ (by omega)), hg, hh, F', hT, hS, hl, fun j hj => by rw [q15 j hj, f2 j hj], hfh⟩
  · obtain ⟨rac', f1⟩ := cE_ok (N := N) (rac := rac) hr (by omega)
    rw [if_neg z, f1, bd3_ok, h5, if_pos rfl, ← nI_0]
    exact ⟨c, e, o, d, dac, 0, rac', hol, g, ac, ae, ao, fc, fm, fl, fq, fh, _, rfl, hG, he, hB, hH, hd, hRd, by omega, fun j hj => absurd hj (Nat.not_lt_zero j), hg, hh, FG_5 hF, hT, hS, hl, fun j hj => absurd hj (Nat.not_lt_zero j), hfh⟩
theorem x_hand {p3 ac ae ao : Int32} (hI : INV n k a b d r g ends br so lo c e o dac rac hol ft fc fl fq fh fg) (hN : 300 ≤ N) :
    AOK n k a b ends br so lo ft (fL_acts_1037 N p3 fg (nI g) hol c e o (nI d) dac (nI r) rac ac ae ao fc fm fl fq fh) := by
  obtain ⟨hG, he, hB, hH, hd, hRd, hr, hRr, hg, hh, hF, hT, hS, hl, hq, hfh⟩ := id hI
  obtain ⟨h0, h1, h2, h3, h4, h5, h6⟩ := id hF
  unfold fL_acts_1037
  obtain ⟨j, hj, ej⟩ := l_low (n := g + 1) (N := N) (v := p3) (by omega) (by omega)
  rw [h6, nI_1, ej, bd1_ok]
  by_cases z : j = g
  · rw [if_pos (by rw [z])]
    unfold fL_acts_1060
    rw [z, lH_n hg, bd2_ok, if_pos rfl, lH_m1, bd2_ok, if_pos rfl]
    exact ⟨c, e, o, d, dac, r, rac, hol, g, ac, ae, ao, fc, fm, fl, fq, fh, fg, rfl, hI⟩
  · have hjg : j < g := by omega
    rw [if_neg (fun y => z ((nI_eq (by omega) (by omega)).mp y))]
    unfold fL_acts_1087
    rw [gin_ok (show j < 10 by omega) (by omega), nI_j (show j < 2 ^ 31 by omega), hfh j hjg]
    by_cases hz : hol j = 0
    · rw [if_pos hz, lH_z hg hjg hz, bd2_ok, if_pos rfl]
      exact ⟨c, e, o, d, dac, r, rac, hol, g, ac, ae, ao, fc, fm, fl, fq, fh, fg, rfl, hI⟩
    · rw [if_neg hz, gin_ok (show j < 10 by omega) (by omega), h6]
      have hu : ∀ p, p < g → (upd fh j 0) p = (upd hol j 0) p := fun p hp => by
        by_cases y : p = j
        · rw [y, upd_s, upd_s]
        · rw [upd_o y, upd_o y]; exact hfh p hp
      refine it2_w (n := g) (fun i x15 x16 => x15 = nI i ∧ x16 = nI (ctN (fun i => decide (¬ upd hol j 0 i = 0)) i)) (AOK n k a b ends br so lo ft) ?_ N 0 0 0 (Nat.zero_le _) (by omega) ⟨rfl, rfl⟩
      rintro G i x15 x16 hi ⟨rfl, rfl⟩
      by_cases y : i < g
      · by_cases y2 : upd hol j 0 i = 0
        · refine Or.inr ⟨y, nI (i + 1), nI (ctN (fun i => decide (¬ upd hol j 0 i = 0)) (i + 1)), ⟨rfl, rfl⟩, ?_⟩
          rw [if_neg (nI_gt y (by omega)), gin_ok (show i < 10 by omega) (by omega), nI_j (show i < 2 ^ 31 by omega), hu i y, if_pos y2, nI_1, ctN, if_neg (by simp [y2]), Int32.add_zero]
          rfl
        · refine Or.inr ⟨y, nI (i + 1), nI (ctN (fun i => decide (¬ upd hol j 0 i = 0)) (i + 1)), ⟨rfl, rfl⟩, ?_⟩
          rw [if_neg (nI_gt y (by omega)), gin_ok (show i < 10 by omega) (by omega), nI_j (show i < 2 ^ 31 by omega), hu i y, if_neg y2, nI_1, ctN, if_pos (by simp [y2]), nI_1]
      · have hig : i = g := by omega
        subst hig
        rw [if_pos (nI_le (Nat.le_refl _) (by omega))]
        unfold fL_acts_1158
        rw [lH_ok hg hjg hz (by omega), bd2_ok, if_pos rfl, nI_j (show j < 2 ^ 31 by omega)]
        refine Or.inl ⟨c, e, o, d, dac, r, rac, upd hol j 0, i, ac, ae, ao, fc, fm, fl, fq, upd fh j 0, fg, rfl, hG, he, hB, hH, hd, hRd, hr, hRr, hg, fun p hp => ?_, hF, hT, hS, hl, hq, hu⟩
        by_cases y : p = j
        · rw [y, upd_s]
          intro v hv
          rw [b_0] at hv
          cases hv
        · rw [upd_o y]; exact hh p hp
theorem x_permit {p2 p3 ac ae ao : Int32} (hI : INV n k a b d r g ends br so lo c e o dac rac hol ft fc fl fq fh fg) (hN : 300 ≤ N) :
    AOK n k a b ends br so lo ft (fL_acts_787 N ft fm fg fc fh (nI n) (nI k) br so lo ends c e o (nI g) hol (nI d) dac (nI r) rac ac ae ao fl fq p2 p3) := by
  obtain ⟨hG, he, hB, hH, hd, hRd, hr, hRr, hg, hh, hF, hT, hS, hl, hq, hfh⟩ := id hI
  obtain ⟨h0, h1, h2, h3, h4, h5, h6⟩ := id hF
  obtain ⟨s0, s1, s2⟩ := id hS
  have hn := hG.1
  have hie := hH.2.2.2.1
  have hio := hH.o
  obtain ⟨m', em, hm⟩ := l_lay (N := N) (fm := fm) (C := c) hG h0 h1 hT (by omega)
  unfold fL_acts_787
  rw [s0, em, bd1_ok, s1, l_with hG h0 hm hie (by omega), bd1_ok, s2, l_with hG h0 hm hio (by omega), bd1_ok, l_held h6 hg hfh (by omega), bd1_ok, h0]
  obtain ⟨good, hgood⟩ : ∃ good, good = (CL k a b c e &&& (CL k a b c o ^^^ (-1))) &&& (orF hol g ^^^ (-1)) := ⟨_, rfl⟩
  have gbt : ∀ v, bt good v = true ↔ bt (CL k a b c e) v = true ∧ ¬ bt (CL k a b c o) v = true ∧ ¬ bt (orF hol g) v = true := fun v => by
    rw [hgood, b_and, b_and, Bool.and_eq_true, Bool.and_eq_true]
    constructor
    · rintro ⟨⟨x, y⟩, z⟩
      rw [q_not (b_lt x)] at y z
      exact ⟨x, by simpa using y, by simpa using z⟩
    · rintro ⟨x, y, z⟩
      rw [q_not (b_lt x), q_not (b_lt x)]
      exact ⟨⟨x, by simpa using y⟩, by simpa using z⟩
  have gin_ : inN n good := fun v hv => CL_in hG hie v ((gbt v).mp hv).1
  have sub : ∀ X : Int32, inN n (good &&& X) := fun X v hv => by
    rw [b_and, Bool.and_eq_true] at hv
    exact gin_ v hv.1
  have hall : inN n (p3 &&& (((1 : Int32) <<< (nI n &&& 31)) - 1)) := fun v hv => by
    rw [b_and, Bool.and_eq_true] at hv
    have := hv.2
    rw [q_all n (by omega) v (b_lt hv.1)] at this
    simpa using this
  rw [← hgood]
  have y46 : ∃ y, inN n y ∧ ∀ (ρ : Type) (gg : Int32 → Option ρ), (if (p2 &&& 6) ≤ 0 then gg (p3 &&& (((1 : Int32) <<< (nI n &&& 31)) - 1)) else gg (good &&& p3)) = gg y := by
    by_cases z : (p2 &&& 6) ≤ 0
    · exact ⟨_, hall, fun ρ gg => if_pos z⟩
    · exact ⟨_, sub p3, fun ρ gg => if_neg z⟩
  obtain ⟨y, hy, ey⟩ := y46
  rw [jn1_to y (ey _)]
  unfold fL_acts_865
  rw [← hgood]
  have y49 : ∃ p, inN n p ∧ ∀ (ρ : Type) (gg : Int32 → Option ρ), (if good = 0 then gg y else (if y = 0 then gg (good &&& (-good)) else (if (p2 &&& 24) = 0 then gg (good &&& (-good)) else gg y))) = gg p := by
    by_cases z1 : good = 0
    · exact ⟨y, hy, fun ρ gg => if_pos z1⟩
    · by_cases z2 : y = 0
      · exact ⟨_, sub _, fun ρ gg => (if_neg z1).trans (if_pos z2)⟩
      · by_cases z3 : (p2 &&& 24) = 0
        · exact ⟨_, sub _, fun ρ gg => (if_neg z1).trans ((if_neg z2).trans (if_pos z3))⟩
        · exact ⟨y, hy, fun ρ gg => (if_neg z1).trans ((if_neg z2).trans (if_neg z3))⟩
  obtain ⟨p, hp, ep⟩ := y49
  rw [jn1_to p (ep _)]
  unfold fL_acts_895
  have b1 : ¬ inN n ((1 : Int32) <<< (nI n &&& 31)) := fun z => by
    have := z n ((q_bitT (by omega)).mpr rfl)
    omega
  have b2 : ¬ inN n (-1) := fun z => by
    have := z 31 (b_m1 31 (by omega))
    omega
  rw [lP_bad hn (Or.inl rfl), bd3_ok, if_pos rfl, h0, lP_bad hn (Or.inr b1), bd3_ok, if_pos rfl, lP_bad hn (Or.inr b2), bd3_ok, if_pos rfl]
  unfold fL_acts_934
  by_cases hp0 : p = 0
  · rw [if_pos hp0]
    unfold fX4_held
    rw [c_held hg (by omega), bd1_ok, bd1_ok, l_held h6 hg hfh (by omega), bd1_ok, if_pos rfl]
    exact ⟨c, e, o, d, dac, r, rac, hol, g, ac, ae, ao, fc, m', fl, fq, fh, fg, rfl, hI⟩
  · rw [if_neg hp0]
    unfold fL_acts_959
    rw [← hgood, h6]
    have pg : p &&& (good ^^^ (-1)) = 0 ↔ SFE k a b c e o p ∧ p &&& orF hol g = 0 := by
      rw [q_and0, q_and0]
      constructor
      · intro z
        have key : ∀ v, bt p v = true → bt good v = true := fun v hv => Classical.byContradiction (fun y => z v hv (by rw [q_not (b_lt hv)]; simpa using y))
        exact ⟨fun v hv => ⟨((gbt v).mp (key v hv)).1, ((gbt v).mp (key v hv)).2.1⟩, fun v hv hv2 => ((gbt v).mp (key v hv)).2.2 hv2⟩
      · rintro ⟨z1, z2⟩ v hv hv2
        rw [q_not (b_lt hv), (gbt v).mpr ⟨(z1 v hv).1, (z1 v hv).2, fun y => z2 v hv y⟩] at hv2
        cases hv2
    by_cases hok : g < 10 ∧ (SFE k a b c e o p ∧ p &&& orF hol g = 0)
    · rw [jn0_out (fun gg => (if_neg (fun z => by have := (nI_eq (b := 10) (by omega) (by omega)).mp z; omega)).trans (if_pos (pg.mpr hok.2)))]
      unfold fL_acts_996
      rw [h6, gin_ok hok.1 (by omega), lP_ok hG he hie hio hok.1 hp0 hp hok.2 (by omega), bd3_ok, nI_1, upd_s, nI_pred, if_pos rfl, nI_j (by omega)]
      refine ⟨c, e, o, d, dac, r, rac, upd hol g p, g + 1, ac, ae, ao, fc, m', fl, fq, upd fh g p, _, rfl, hG, he, hB, hH, hd, hRd, hr, hRr, by omega, fun i hi => ?_, FG_6 hF, hT, hS, hl, hq, eq_app hfh⟩
      by_cases z : i = g
      · rw [z, upd_s]; exact hp
      · rw [upd_o z]; exact hh i (by omega)
    · have t9 : ∀ gg : Option (Int32 × Int32 × Int32 × Int32 × (Nat → Int32) × Int32 × (Nat → Int32) × (Nat → Int32) × Int32 × Int32 × Int32 × Int32 × (Nat → Int32) × (Nat → Int32) × (Nat → Int32) × (Nat → Int32) × (Nat → Int32) × (Nat → Int32)), (if nI g = 10 then gg else (if p &&& (good ^^^ (-1)) = 0 then fL_acts_996 N fg (nI n) (nI k) br so lo ends c e o (nI g) hol p (nI d) dac (nI r) rac ac ae ao fc m' fl fq fh else gg)) = gg := fun gg => by
        by_cases z : nI g = 10
        · rw [if_pos z]
        · have : ¬ g = 10 := fun y => z (by rw [y]; rfl)
          rw [if_neg z, if_neg (fun y => hok ⟨by omega, pg.mp y⟩)]
      rw [jn0_to t9]
      unfold fL_acts_979
      have hst : g = 10 ∨ ¬ (SFE k a b c e o p ∧ p &&& orF hol g = 0) := by
        by_cases z : g = 10
        · exact Or.inl z
        · exact Or.inr (fun y => hok ⟨by omega, y⟩)
      rw [lP_st hG he hie hio hg hp0 hp hst (by omega), bd3_ok, if_pos rfl]
      exact ⟨c, e, o, d, dac, r, rac, hol, g, ac, ae, ao, fc, m', fl, fq, fh, fg, rfl, hI⟩
end OPS2
