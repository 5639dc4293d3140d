/-! the law's rows beside the class's state; act, takeBack -/
def INV (n k : Nat) (a b : Nat → Nat) (d r g : Nat) (ends : Nat → Int32) (br so lo c e o : Int32) (dac rac hol ft fc fl fq fh fg : Nat → Int32) : Prop :=
  GR n k a b ∧ (∀ s, s < k → ends s = edg a b s) ∧ inN k br ∧ HS n k a b so lo c e o ∧ d ≤ 60 ∧ ROWs n k d dac ∧ r ≤ 30 ∧ ROWs n k r rac ∧ g ≤ 10 ∧ (∀ p, p < g → inN n (hol p)) ∧ FG n k so lo d r g fg ∧ FT k a b br ft ∧ SD fc c e o ∧ (∀ j, j < d → fl j = dac j) ∧ (∀ j, j < r → fq j = rac j) ∧ (∀ p, p < g → fh p = hol p)
def AOK (n k : Nat) (a b : Nat → Nat) (ends : Nat → Int32) (br so lo : Int32) (ft : Nat → Int32) (R : Option (Int32 × Int32 × Int32 × Int32 × (Nat → Int32) × Int32 × (Nat → Int32) × (Nat → Int32) × Int32 × Int32 × Int32 × Int32 × (Nat → Int32) × (Nat → Int32) × (Nat → Int32) × (Nat → Int32) × (Nat → Int32) × (Nat → Int32))) : Prop :=
  ∃ (c' e' o' : Int32) (d' : Nat) (dac' : Nat → Int32) (r' : Nat) (rac' hol' : Nat → Int32) (g' : Nat) (x y z : Int32) (fc' fm' fl' fq' fh' fg' : Nat → Int32), R = some (c', e', o', nI d', dac', nI r', rac', hol', nI g', x, y, z, fc', fm', fl', fq', fh', fg') ∧ INV n k a b d' r' g' ends br so lo c' e' o' dac' rac' hol' ft fc' fl' fq' fh' fg'
theorem a_200 : ∀ q, q < 6 → ∀ w, w < 32 → nI (100 * q + w) / 200 = nI (q / 2) := by decide +kernel
section INVS
variable {n k : Nat} {a b : Nat → Nat} {ends : Nat → Int32} {br so lo c e o : Int32} {N d r g q w : Nat} {hol dac rac ft fc fl fq fh fg fm : Nat → Int32}
theorem lA_0 {nc cl ea on ds pg ac ae ao p1 : Int32} (hk : k ≤ 24) (h : ¬ NIN k p1) : fL_act N nc (nI k) br so lo ends cl ea on ds dac pg hol ac ae ao 0 p1 = some (-72, cl, ea, on, ds, dac, ac, ae, ao) := lA_sw (q := 0) hk (by omega) h
theorem lA_2 {sc cl ea on ds pg ac ae ao p1 : Int32} (hn : n ≤ 16) (h : ¬ NIN n p1) : fL_act N (nI n) sc br so lo ends cl ea on ds dac pg hol ac ae ao 2 p1 = some (-72, cl, ea, on, ds, dac, ac, ae, ao) := lA_nd (q := 2) hn (by omega) (by omega) h
theorem lA_5 {sc cl ea on ds pg ac ae ao p1 : Int32} (hn : n ≤ 16) (h : ¬ NIN n p1) : fL_act N (nI n) sc br so lo ends cl ea on ds dac pg hol ac ae ao 5 p1 = some (-72, cl, ea, on, ds, dac, ac, ae, ao) := lA_nd (q := 5) hn (by omega) (by omega) h
theorem lW_1 {nc rs p1 : Int32} (hk : k ≤ 24) (h : ¬ NIN k p1) : fL_write N nc (nI k) br so lo rs rac 1 p1 = some (-72, rs, rac) := lW_sw (q := 1) hk (by omega) h
theorem lW_3 {sc rs p1 : Int32} (hn : n ≤ 16) (h : ¬ NIN n p1) : fL_write N (nI n) sc br so lo rs rac 3 p1 = some (-72, rs, rac) := lW_nd (q := 3) hn (by omega) (by omega) h
theorem lR_1 {nc cl ea on pg ac ae ao p1 : Int32} (hk : k ≤ 24) (h : ¬ NIN k p1) : fL_reason N nc (nI k) br so lo ends cl ea on pg hol ac ae ao 1 p1 = some (-72, ac, ae, ao) := lR_sw (q := 1) hk (by omega) h
theorem lR_4 {sc cl ea on pg ac ae ao p1 : Int32} (hn : n ≤ 16) (h : ¬ NIN n p1) : fL_reason N (nI n) sc br so lo ends cl ea on pg hol ac ae ao 4 p1 = some (-72, ac, ae, ao) := lR_nd (q := 4) hn (by omega) (by omega) h
theorem FG_4 {d' : Nat} (h : FG n k so lo d r g fg) : FG n k so lo d' r g (upd fg 4 (nI d')) := by
  obtain ⟨h0, h1, h2, h3, h4, h5, h6⟩ := h
  exact ⟨by rw [upd_o (by omega)]; exact h0, by rw [upd_o (by omega)]; exact h1, by rw [upd_o (by omega)]; exact h2, by rw [upd_o (by omega)]; exact h3, upd_s, by rw [upd_o (by omega)]; exact h5, by rw [upd_o (by omega)]; exact h6⟩
theorem FG_5 {r' : Nat} (h : FG n k so lo d r g fg) : FG n k so lo d r' g (upd fg 5 (nI r')) := by
  obtain ⟨h0, h1, h2, h3, h4, h5, h6⟩ := h
  exact ⟨by rw [upd_o (by omega)]; exact h0, by rw [upd_o (by omega)]; exact h1, by rw [upd_o (by omega)]; exact h2, by rw [upd_o (by omega)]; exact h3, by rw [upd_o (by omega)]; exact h4, upd_s, by rw [upd_o (by omega)]; exact h6⟩
theorem FG_6 {g' : Nat} (h : FG n k so lo d r g fg) : FG n k so lo d r g' (upd fg 6 (nI g')) := by
  obtain ⟨h0, h1, h2, h3, h4, h5, h6⟩ := h
  exact ⟨by rw [upd_o (by omega)]; exact h0, by rw [upd_o (by omega)]; exact h1, by rw [upd_o (by omega)]; exact h2, by rw [upd_o (by omega)]; exact h3, by rw [upd_o (by omega)]; exact h4, by rw [upd_o (by omega)]; exact h5, upd_s⟩
theorem SD_f (h : SD fc c e o) (hq : q ≤ 5) : SD (upd fc (q / 2) (fc (q / 2) ^^^ ((1 : Int32) <<< (nI w &&& 31)))) (flC q c w) (flE q e w) (flO q o w) := fl_at h hq
theorem ROWs_app {x : Int32} (h : ROWs n k d dac) (hx : ROW n k x) : ROWs n k (d + 1) (upd dac d x) := fun j hj => by
  by_cases q : j = d
  · rw [q, upd_s]; exact hx
  · rw [upd_o q]; exact h j (by omega)
theorem eq_app {x : Int32} (h : ∀ j, j < d → fl j = dac j) : ∀ j, j < d + 1 → (upd fl d x) j = (upd dac d x) j := fun j hj => by
  by_cases q : j = d
  · rw [q, upd_s, upd_s]
  · rw [upd_o q, upd_o q]; exact h j (by omega)
/-- act -/
theorem x_act {ac ae ao : Int32} (hI : INV n k a b d r g ends br so lo c e o dac rac hol ft fc fl fq fh fg) (hA : ACT n k q w) (hN : 300 ≤ N) :
    AOK n k a b ends br so lo ft (fL_acts_14 N (nI n) (nI k) br so lo ends c e o (nI d) dac (nI g) hol ac ae ao fg ft fm fh fc (nI (100 * q + w)) (nI r) rac fl fq) := by
  obtain ⟨hG, he, hB, hH, hd, hRd, hr, hRr, hg, hh, hF, hT, hS, hl, hq, hfh⟩ := id hI
  obtain ⟨h0, h1, h2, h3, h4, h5, h6⟩ := id hF
  have hn := hG.1
  have hk := hG.2.1
  have hw := hA.w32 hG
  have hq5 := hA.1
  have eq := a_q q (by omega) w hw
  have ew := a_w q (by omega) w hw
  have e2 := a_200 q (by omega) w hw
  unfold fL_acts_14
  rw [lA_kind (Or.inr (by decide)), bd9_ok, if_pos rfl, lA_kind (Or.inl (by decide)), bd9_ok, if_pos rfl, h1, lA_0 hk (NIN_self (by omega)), bd9_ok, if_pos rfl, h0, lA_5 hn (NIN_self (by omega)), bd9_ok, if_pos rfl, lA_2 hn (NIN_m1 (by omega)), bd9_ok, if_pos rfl]
  unfold fL_acts_79
  obtain ⟨m', em⟩ := l_why (N := N) (fm := fm) hG hF hT hS hH hA hg hfh (by omega)
  rw [em, bd3_ok]
  by_cases hv : VAL k a b br so lo c e o (orF hol g) q w = 0
  · by_cases hd60 : d = 60
    · obtain ⟨x, y, z, eR⟩ := lR_ok (N := N) (hol := hol) (br := br) (ac := ac) (ae := ae) (ao := ao) hG he hH hA hg (by omega)
      have e4 : fg 4 = 60 := by rw [h4, hd60]; rfl
      rw [ew, eq, eR, jn0_out (fun gg => (if_pos hv).trans ((if_pos e4).trans (by rw [bd4_ok, if_pos hv]))) ]
      exact ⟨c, e, o, d, dac, r, rac, hol, g, x, y, z, fc, m', fl, fq, fh, fg, rfl, hI⟩
    · have e4 : ¬ fg 4 = 60 := fun z => hd60 ((nI_eq (b := 60) (by omega) (by omega)).mp (h4.symm.trans z))
      rw [jn0_to (fun gg => (if_pos hv).trans (if_neg e4))]
      unfold fL_acts_133
      rw [jn18_to c e o (nI d) dac (nI r) rac hol (nI g) ac ae ao (upd fc (q / 2) (fc (q / 2) ^^^ ((1 : Int32) <<< (nI w &&& 31)))) m' (upd fl d (nI (100 * q + w))) fq fh (upd fg 4 (nI (d + 1))) (fun gg => (if_pos hv).trans (by
        rw [ew, e2, gin_ok (show q / 2 < 3 by omega) (by omega), gin_ok (show q / 2 < 3 by omega) (by omega), nI_j (show q / 2 < 2 ^ 31 by omega), h4, gin_ok (show d < 60 by omega) (by omega), nI_j (show d < 2 ^ 31 by omega), nI_1]))]
      unfold fL_acts_174
      obtain ⟨x, y, z, e8, e9⟩ := lA_ok (N := N) (hol := hol) (dac := dac) (br := br) (ac := ac) (ae := ae) (ao := ao) hG he hH hA hg (show d < 200 by omega) (by omega)
      rw [ew, eq, e8 hv, bd9_ok, hv, if_pos rfl]
      exact ⟨_, _, _, d + 1, _, r, rac, hol, g, x, y, z, _, m', _, fq, fh, _, rfl, hG, he, hB, HS_go hG hH hA hv, by omega, ROWs_app hRd ⟨q, w, hA, rfl⟩, hr, hRr, hg, hh, FG_4 hF, hT, SD_f hS hq5, eq_app hl, hq, hfh⟩
  · rw [jn0_to (fun gg => if_neg hv)]
    unfold fL_acts_133
    rw [jn18_to c e o (nI d) dac (nI r) rac hol (nI g) ac ae ao fc m' fl fq fh fg (fun gg => if_neg hv)]
    unfold fL_acts_174
    obtain ⟨x, y, z, e8, e9⟩ := lA_ok (N := N) (hol := hol) (dac := dac) (br := br) (ac := ac) (ae := ae) (ao := ao) hG he hH hA hg (show d < 200 by omega) (by omega)
    rw [ew, eq, e9 hv, bd9_ok, if_pos rfl]
    exact ⟨c, e, o, d, dac, r, rac, hol, g, x, y, z, fc, m', fl, fq, fh, fg, rfl, hI⟩
/-- takeBack -/
theorem x_back {ac ae ao : Int32} (hI : INV n k a b d r g ends br so lo c e o dac rac hol ft fc fl fq fh fg) (hN : 300 ≤ N) :
    AOK n k a b ends br so lo ft (fL_acts_205 N fg (nI n) (nI k) br so lo ends c e o (nI d) dac (nI g) hol ac ae ao (nI r) rac fc fm fl fq fh ft) := by
  obtain ⟨hG, he, hB, hH, hd, hRd, hr, hRr, hg, hh, hF, hT, hS, hl, hq, hfh⟩ := id hI
  obtain ⟨h0, h1, h2, h3, h4, h5, h6⟩ := id hF
  unfold fL_acts_205
  rw [h4]
  cases d with
  | zero =>
    rw [if_pos nI_0, lT_0, bd8_ok, if_pos rfl]
    exact ⟨c, e, o, 0, dac, r, rac, hol, g, ac, ae, ao, fc, fm, fl, fq, fh, fg, rfl, hI⟩
  | succ m =>
    obtain ⟨hA, ex⟩ := ROW_a hG (hRd m (by omega))
    have hA' := hA.op
    have hw := hA.w32 hG
    have hq5 := hA'.1
    have ew := a_w (opp (qO (dac m))) (by omega) (wO (dac m)) hw
    have e2 := a_200 (opp (qO (dac m))) (by omega) (wO (dac m)) hw
    obtain ⟨m', em⟩ := l_why (N := N) (fm := fm) hG hF hT hS hH hA' hg hfh (by omega)
    obtain ⟨x, y, z, e8, e9⟩ := lT_ok (N := N) (hol := hol) (br := br) (ac := ac) (ae := ae) (ao := ao) (dac := dac) (m := m) hG he hH hA hg (by omega) ex (by omega)
    rw [if_neg (nI_ne0 (by omega) (by omega))]
    unfold fL_acts_227
    rw [h4, nI_pred, gin_ok (by omega) (by omega), nI_j (by omega), hl m (by omega), l_opx hG (hRd m (by omega)), bd1_ok]
    unfold opx
    rw [em, bd3_ok]
    by_cases hv : VAL k a b br so lo c e o (orF hol g) (opp (qO (dac m))) (wO (dac m)) = 0
    · rw [jn18_to c e o (nI (m + 1)) dac (nI r) rac hol (nI g) ac ae ao (upd fc (opp (qO (dac m)) / 2) (fc (opp (qO (dac m)) / 2) ^^^ ((1 : Int32) <<< (nI (wO (dac m)) &&& 31)))) m' fl fq fh (upd fg 4 (nI m)) (fun gg => (if_pos hv).trans (by
        rw [ew, e2, gin_ok (show opp (qO (dac m)) / 2 < 3 by omega) (by omega), gin_ok (show opp (qO (dac m)) / 2 < 3 by omega) (by omega), nI_j (show opp (qO (dac m)) / 2 < 2 ^ 31 by omega)])), e8 hv, bd8_ok, hv, if_pos rfl]
      exact ⟨_, _, _, m, dac, r, rac, hol, g, x, y, z, _, m', fl, fq, fh, _, rfl, hG, he, hB, HS_go hG hH hA' hv, by omega, fun j hj => hRd j (by omega), hr, hRr, hg, hh, FG_4 hF, hT, SD_f hS hq5, fun j hj => hl j (by omega), hq, hfh⟩
    · rw [jn18_to c e o (nI (m + 1)) dac (nI r) rac hol (nI g) ac ae ao fc m' fl fq fh fg (fun gg => if_neg hv), e9 hv, bd8_ok, if_pos rfl]
      exact ⟨c, e, o, m + 1, dac, r, rac, hol, g, x, y, z, fc, m', fl, fq, fh, fg, rfl, hI⟩
end INVS
