/-! carryOut -/
section CARRY
variable {n k : Nat} {a b : Nat → Nat} {ends : Nat → Int32} {br so lo c e o : Int32} {N d r g q w M W m : Nat} {hol dac rac ft fc fl fq fh fg fm : Nat → Int32}
/-- behind the law's own row of allowed acts: the sequence moves up, the class is asked -/
theorem x_c723 {ac ae ao : Int32} {fc' fm' fl' fg' : Nat → Int32} (hI : INV n k a b d r g ends br so lo c e o dac rac hol ft fc fl fq fh fg) (hM1 : 1 ≤ M) (hM2 : M ≤ 8) (hdM : d + M ≤ 60) (hW : W = min M r) (hU : UP k a b br so lo (orF hol g) rac c e o m W)
    (j1 : SD fc' (stS rac c e o m).1 (stS rac c e o m).2.1 (stS rac c e o m).2.2) (j2 : ∀ j, j < d → fl' j = dac j) (j3 : ∀ j, j < m → fl' (d + j) = rac j) (j4 : FG n k so lo (d + m) r g fg') (hN : 300 ≤ N) :
    AOK n k a b ends br so lo ft (fL_acts_723 N (nI n) (nI k) br so lo ends (nI M) (nI m) c e o (nI d) dac (nI r) rac hol (nI g) ac ae ao fc' fm' fl' fq fh fg') := by
  obtain ⟨hG, he, hB, hH, hd, hRd, hr, hRr, hg, hh, hF, hT, hS, hl, hq, hfh⟩ := id hI
  obtain ⟨h0, h1, h2, h3, h4, h5, h6⟩ := id j4
  obtain ⟨u1, u2, u3⟩ := id hU
  have hmr : m ≤ r := by omega
  obtain ⟨dac', rac', x, y, z, e9, k1, k2, k3⟩ := lC_ok (N := N) (dac := dac) (ac := ac) (ae := ae) (ao := ao) (d := d) (P := M) hG he hH hg hr hRr hM1 (by omega) hW (by omega) hU hN
  unfold fL_acts_723
  refine it19_w (n := r - m) (fun i x165 w166 w167 w168 w169 w170 w171 w172 w173 w174 w175 w176 w177 w178 w179 w180 w181 w182 w183 => x165 = nI (m + i) ∧ w166 = c ∧ w167 = e ∧ w168 = o ∧ w169 = nI d ∧ w170 = dac ∧ w171 = nI r ∧ w172 = rac ∧ w173 = hol ∧ w174 = nI g ∧ w175 = ac ∧ w176 = ae ∧ w177 = ao ∧ w178 = fc' ∧ w180 = fl' ∧ w182 = fh ∧ w183 = fg' ∧ (∀ j, j < i → w181 j = rac (m + j)) ∧ ∀ j, i ≤ j → j < r → w181 j = rac j) (AOK n k a b ends br so lo ft) ?_ N 0 (nI m) c e o (nI d) dac (nI r) rac hol (nI g) ac ae ao fc' fm' fl' fq fh fg' (Nat.zero_le _) (by omega) ⟨rfl, rfl, rfl, rfl, rfl, rfl, rfl, rfl, rfl, rfl, rfl, rfl, rfl, rfl, rfl, rfl, rfl, fun j hj => absurd hj (Nat.not_lt_zero j), fun j _ hj => hq j hj⟩
  rintro G i x165 w166 w167 w168 w169 w170 w171 w172 w173 w174 w175 w176 w177 w178 w179 w180 w181 w182 w183 hi ⟨q1, q2, q3, q4, q5, q6, q7, q8, q9, q10, q11, q12, q13, q14, q15, q16, q17, q18, q19⟩
  rw [q1, q2, q3, q4, q5, q6, q7, q8, q9, q10, q11, q12, q13, q14, q15, q16, q17, h5]
  by_cases v : i < r - m
  · refine Or.inr ⟨v, nI (m + (i + 1)), c, e, o, nI d, dac, nI r, rac, hol, nI g, ac, ae, ao, fc', w179, fl', upd w181 i (rac (m + i)), fh, fg', ⟨rfl, rfl, rfl, rfl, rfl, rfl, rfl, rfl, rfl, rfl, rfl, rfl, rfl, rfl, rfl, rfl, rfl, fun j hj => ?_, fun j hj hj2 => ?_⟩, ?_⟩
    · by_cases t : j = i
      · rw [t, upd_s]
      · rw [upd_o t]; exact q18 j (by omega)
    · rw [upd_o (by omega)]; exact q19 j (by omega) hj2
    · rw [if_neg (nI_gt (show m + i < r by omega) (by omega)), nI_sub (show m ≤ m + i by omega), Nat.add_sub_cancel_left, gin_ok (show m + i < 30 by omega) (by omega), gin_ok (show i < 30 by omega) (by omega), nI_j (show m + i < 2 ^ 31 by omega), nI_j (show i < 2 ^ 31 by omega), nI_1, q19 (m + i) (by omega) (by omega)]
      rfl
  · have hir : m + i = r := by omega
    rw [if_pos (nI_le (show r ≤ m + i by omega) (by omega))]
    unfold fL_acts_755
    rw [e9, bd11_ok, if_pos rfl, h5, nI_sub hmr]
    have hHm := stS_HS hG hH hRr hmr u2 m (Nat.le_refl m)
    refine Or.inl ⟨_, _, _, d + m, dac', r - m, rac', hol, g, x, y, z, fc', w179, fl', w181, fh, _, rfl, hG, he, hB, hHm, by omega, fun j hj => ?_, by omega, fun j hj => ?_, hg, hh, FG_5 j4, hT, j1, fun j hj => ?_, fun j hj => ?_, hfh⟩
    · by_cases t : j < d
      · rw [k1 j t]; exact hRd j t
      · have := k2 (j - d) (by omega)
        rw [show d + (j - d) = j by omega] at this
        rw [this]
        exact hRr _ (by omega)
    · rw [k3 j hj]; exact hRr _ (by omega)
    · by_cases t : j < d
      · rw [j2 j t, k1 j t]
      · have e1 := k2 (j - d) (by omega)
        have e2 := j3 (j - d) (by omega)
        rw [show d + (j - d) = j by omega] at e1 e2
        rw [e1, e2]
    · rw [q18 j (by omega), k3 j hj]
theorem x_c632 {ac ae ao : Int32} (hI : INV n k a b d r g ends br so lo c e o dac rac hol ft fc fl fq fh fg) (hM1 : 1 ≤ M) (hM2 : M ≤ 8) (hdM : d + M ≤ 60) (hN : 300 ≤ N) :
    AOK n k a b ends br so lo ft (fL_acts_632 N (nI n) (nI k) br so lo ends (nI M) ft c e o (nI d) dac (nI r) rac hol (nI g) ac ae ao fc fm fl fq fh fg) := by
  obtain ⟨hG, he, hB, hH, hd, hRd, hr, hRr, hg, hh, hF, hT, hS, hl, hq, hfh⟩ := id hI
  obtain ⟨W, hW⟩ : ∃ W, W = min M r := ⟨_, rfl⟩
  obtain ⟨m, hU⟩ := UP_ex (k := k) (a := a) (b := b) (br := br) (so := so) (lo := lo) (hm := orF hol g) (f := rac) (c := c) (e := e) (o := o) W
  obtain ⟨u1, u2, u3⟩ := id hU
  have hmr : m ≤ r := by omega
  unfold fL_acts_632
  refine it19_w (n := m) (fun i x124 w125 w126 w127 w128 w129 w130 w131 w132 w133 w134 w135 w136 w137 w138 w139 w140 w141 w142 => x124 = nI i ∧ w125 = c ∧ w126 = e ∧ w127 = o ∧ w128 = nI d ∧ w129 = dac ∧ w130 = nI r ∧ w131 = rac ∧ w132 = hol ∧ w133 = nI g ∧ w134 = ac ∧ w135 = ae ∧ w136 = ao ∧ SD w137 (stS rac c e o i).1 (stS rac c e o i).2.1 (stS rac c e o i).2.2 ∧ w140 = fq ∧ w141 = fh ∧ FG n k so lo (d + i) r g w142 ∧ (∀ j, j < d → w139 j = dac j) ∧ ∀ j, j < i → w139 (d + j) = rac j) (AOK n k a b ends br so lo ft) ?_ N 0 0 c e o (nI d) dac (nI r) rac hol (nI g) ac ae ao fc fm fl fq fh fg (Nat.zero_le _) (by omega) ⟨rfl, rfl, rfl, rfl, rfl, rfl, rfl, rfl, rfl, rfl, rfl, rfl, rfl, hS, rfl, rfl, hF, hl, fun j hj => absurd hj (Nat.not_lt_zero j)⟩
  rintro G i x124 w125 w126 w127 w128 w129 w130 w131 w132 w133 w134 w135 w136 w137 w138 w139 w140 w141 w142 hi ⟨q1, q2, q3, q4, q5, q6, q7, q8, q9, q10, q11, q12, q13, hS1, q15, q16, hF1, hl1, hl2⟩
  rw [q1, q2, q3, q4, q5, q6, q7, q8, q9, q10, q11, q12, q13, q15, q16]
  obtain ⟨h0, h1, h2, h3, h4, h5, h6⟩ := id hF1
  have hHi := stS_HS hG hH hRr hmr u2 i hi
  rw [h5]
  by_cases z : i < W
  · obtain ⟨hA, ex⟩ := ROW_a hG (hRr i (by omega))
    have hw := hA.w32 hG
    have hq5 := hA.1
    obtain ⟨m', em⟩ := l_why (N := N) (fm := w138) hG hF1 hT hS1 hHi hA hg hfh (by omega)
    have ew := a_w (qO (rac i)) (by omega) (wO (rac i)) hw
    have e2 := a_200 (qO (rac i)) (by omega) (wO (rac i)) hw
    rw [← ex] at em ew e2
    by_cases y : i < m
    · have hv := u2 i y
      unfold vlS at hv
      refine Or.inr ⟨y, nI (i + 1), c, e, o, nI d, dac, nI r, rac, hol, nI g, ac, ae, ao, upd w137 (qO (rac i) / 2) (w137 (qO (rac i) / 2) ^^^ ((1 : Int32) <<< (nI (wO (rac i)) &&& 31))), m', upd w139 (d + i) (rac i), fq, fh, upd w142 4 (nI (d + (i + 1))), ⟨rfl, rfl, rfl, rfl, rfl, rfl, rfl, rfl, rfl, rfl, rfl, rfl, rfl, SD_f hS1 hq5, rfl, rfl, FG_4 hF1, fun j hj => ?_, fun j hj => ?_⟩, ?_⟩
      · rw [upd_o (by omega)]; exact hl1 j hj
      · by_cases t : j = i
        · rw [t, upd_s]
        · rw [upd_o (by omega)]; exact hl2 j (by omega)
      · refine jn18_out (fun gg => ?_)
        rw [if_neg (nI_gt (show i < M by omega) (by omega)), if_neg (nI_gt (show i < r by omega) (by omega)), gin_ok (show i < 30 by omega) (by omega), nI_j (show i < 2 ^ 31 by omega), hq i (by omega), em, bd3_ok, if_pos hv, gin_ok (show i < 30 by omega) (by omega), ew, e2, gin_ok (show qO (rac i) / 2 < 3 by omega) (by omega), gin_ok (show i < 30 by omega) (by omega), gin_ok (show qO (rac i) / 2 < 3 by omega) (by omega), gin_ok (show i < 30 by omega) (by omega), h4, gin_ok (show d + i < 60 by omega) (by omega), nI_j (show qO (rac i) / 2 < 2 ^ 31 by omega), nI_j (show d + i < 2 ^ 31 by omega), nI_1, nI_1]
        rfl
    · have him : i = m := by omega
      subst him
      have hv : ¬ vlS k a b br so lo (orF hol g) rac c e o i = 0 := u3.resolve_left (by omega)
      unfold vlS at hv
      rw [jn18_to c e o (nI d) dac (nI r) rac hol (nI g) ac ae ao w137 m' w139 fq fh w142 (fun gg => (if_neg (nI_gt (show i < M by omega) (by omega))).trans ((if_neg (nI_gt (show i < r by omega) (by omega))).trans (by
        rw [gin_ok (show i < 30 by omega) (by omega), nI_j (show i < 2 ^ 31 by omega), hq i (by omega), em, bd3_ok, if_neg hv])))]
      exact Or.inl (x_c723 hI hM1 hM2 hdM hW hU hS1 hl1 hl2 hF1 hN)
  · have him : i = m := by omega
    have hmW : m = W := by omega
    subst him
    have ex : ∀ (gg : Int32 → Int32 → Int32 → Int32 → (Nat → Int32) → Int32 → (Nat → Int32) → (Nat → Int32) → Int32 → Int32 → Int32 → Int32 → (Nat → Int32) → (Nat → Int32) → (Nat → Int32) → (Nat → Int32) → (Nat → Int32) → (Nat → Int32) → Option (Int32 × Int32 × Int32 × Int32 × (Nat → Int32) × Int32 × (Nat → Int32) × (Nat → Int32) × Int32 × Int32 × Int32 × Int32 × (Nat → Int32) × (Nat → Int32) × (Nat → Int32) × (Nat → Int32) × (Nat → Int32) × (Nat → Int32))) (u : Option (Int32 × Int32 × Int32 × Int32 × (Nat → Int32) × Int32 × (Nat → Int32) × (Nat → Int32) × Int32 × Int32 × Int32 × Int32 × (Nat → Int32) × (Nat → Int32) × (Nat → Int32) × (Nat → Int32) × (Nat → Int32) × (Nat → Int32))), (if nI M ≤ nI i then gg c e o (nI d) dac (nI r) rac hol (nI g) ac ae ao w137 w138 w139 fq fh w142 else (if nI r ≤ nI i then gg c e o (nI d) dac (nI r) rac hol (nI g) ac ae ao w137 w138 w139 fq fh w142 else u)) = gg c e o (nI d) dac (nI r) rac hol (nI g) ac ae ao w137 w138 w139 fq fh w142 := fun gg u => by
      by_cases t : M ≤ i
      · rw [if_pos (nI_le t (by omega))]
      · rw [if_neg (nI_gt (show i < M by omega) (by omega)), if_pos (nI_le (by omega) (by omega))]
    rw [jn18_to c e o (nI d) dac (nI r) rac hol (nI g) ac ae ao w137 w138 w139 fq fh w142 (fun gg => ex gg _)]
    exact Or.inl (x_c723 hI hM1 hM2 hdM hW hU hS1 hl1 hl2 hF1 hN)
theorem x_carry {p3 ac ae ao : Int32} (hI : INV n k a b d r g ends br so lo c e o dac rac hol ft fc fl fq fh fg) (hN : 300 ≤ N) :
    AOK n k a b ends br so lo ft (fL_acts_553 N p3 (nI n) (nI k) br so lo ends c e o (nI d) dac (nI r) rac (nI g) hol ac ae ao fc fm fl fq fh fg ft) := by
  obtain ⟨hG, he, hB, hH, hd, hRd, hr, hRr, hg, hh, hF, hT, hS, hl, hq, hfh⟩ := id hI
  obtain ⟨h0, h1, h2, h3, h4, h5, h6⟩ := id hF
  unfold fL_acts_553
  obtain ⟨j, hj, ej⟩ := l_low (n := 8) (N := N) (v := p3) (by omega) (by omega)
  have ej : fL_low N p3 8 = some (nI j) := ej
  rw [ej, bd1_ok, h4]
  have hMe : ∃ M, M ≤ 8 ∧ d + M ≤ 60 ∧ (M = 0 → d = 60) ∧ ∀ (gg : Int32 → Option (Int32 × Int32 × Int32 × Int32 × (Nat → Int32) × Int32 × (Nat → Int32) × (Nat → Int32) × Int32 × Int32 × Int32 × Int32 × (Nat → Int32) × (Nat → Int32) × (Nat → Int32) × (Nat → Int32) × (Nat → Int32) × (Nat → Int32))), (if nI d + ((1 : Int32) + nI j) ≤ 60 then fL_acts_585 N gg (nI j) else gg ((60 : Int32) - nI d)) = gg (nI M) := by
    have e1 : (1 : Int32) + nI j = nI (1 + j) := nI_add 1 j
    by_cases z : d + (1 + j) ≤ 60
    · refine ⟨1 + j, by omega, by omega, fun y => by omega, fun gg => ?_⟩
      unfold fL_acts_585
      rw [e1, nI_add, if_pos (show nI (d + (1 + j)) ≤ 60 from nI_le (b := 60) z (by omega))]
    · refine ⟨60 - d, by omega, by omega, fun y => by omega, fun gg => ?_⟩
      rw [e1, nI_add, if_neg (show ¬ nI (d + (1 + j)) ≤ 60 from fun y => z ((nI_leI (b := 60) (by omega) (by omega)).mp y)), show (60 : Int32) - nI d = nI (60 - d) from nI_sub (i := 60) hd]
  obtain ⟨M, m1, m2, m3, m4⟩ := hMe
  rw [jn1_to (nI M) m4]
  unfold fL_acts_587
  rw [lC_bad (Or.inl (by decide)), bd11_ok, if_pos rfl, lC_bad (Or.inr (by decide)), bd11_ok, if_pos rfl]
  unfold fL_acts_612
  by_cases z : M = 0
  · rw [if_pos (by rw [z]; rfl)]
    unfold fX4_log fX0_size
    rw [bd1_ok, bd1_ok, if_pos (by rw [m3 z]; rfl)]
    exact ⟨c, e, o, d, dac, r, rac, hol, g, ac, ae, ao, fc, fm, fl, fq, fh, fg, rfl, hI⟩
  · rw [if_neg (nI_ne0 (by omega) (by omega))]
    exact x_c632 hI (by omega) m1 m2 hN
end CARRY
