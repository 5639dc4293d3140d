/-! isTold, stage by stage from its end -/
def TOK (fc : Nat → Int32) (R : Option (Int32 × Int32 × Int32 × Int32 × Int32 × Int32 × (Nat → Int32) × (Nat → Int32) × (Nat → Int32) × (Nat → Int32))) : Prop := ∃ (t1 t2 t3 t4 t5 t6 : Int32) (fd fm ff : Nat → Int32), R = some (t1, t2, t3, t4, t5, t6, fc, fd, fm, ff)
section TOLD
variable {n k : Nat} {a b : Nat → Nat} {ends : Nat → Int32} {br so lo c e o : Int32} {N d r g q w m : Nat} {hol dac rac ft fc fl fq fh fg fm fd ff : Nat → Int32} {w1 w2 w3 w4 w5 w6 p1 : Int32}
theorem t_791 (hI : INV n k a b d r g ends br so lo c e o dac rac hol ft fc fl fq fh fg) (hU : UP k a b br so lo (orF hol g) rac c e o m r) (hN : 300 ≤ N) :
    TOK fc (fL_isTold_791 N (nI n) (nI k) br so lo ends c e o (nI r) rac (nI g) hol w1 w2 w3 w4 w5 w6 (nI m) fg fc fd fm ff) := by
  obtain ⟨hG, he, hB, hH, hd, hRd, hr, hRr, hg, hh, hF, hT, hS, hl, hq, hfh⟩ := id hI
  obtain ⟨h0, h1, h2, h3, h4, h5, h6⟩ := id hF
  obtain ⟨t1, t2, t3, t4, t5, t6, e9⟩ := c_check (N := N) (tc := w1) (te := w2) (to := w3) (ac := w4) (ae := w5) (ao := w6) hG he hH hg hr hRr hU hN
  unfold fL_isTold_791
  rw [e9, bd7_ok, if_pos rfl, lR_kind (Or.inr (by decide)), bd4_ok, if_pos rfl, h1, lR_1 hG.2.1 (NIN_self (by have := hG.2.1; omega)), bd4_ok, if_pos rfl, lR_4 hG.1 (NIN_m1 (by have := hG.1; omega)), bd4_ok, if_pos rfl]
  exact ⟨_, _, _, _, _, _, _, _, _, rfl⟩
theorem t_728 (hI : INV n k a b d r g ends br so lo c e o dac rac hol ft fc fl fq fh fg) (hSd : SD fd c e o) (hN : 300 ≤ N) :
    TOK fc (fL_isTold_728 N (nI n) (nI k) br so lo ends c e o (nI r) rac (nI g) hol fg ft fh fq w1 w2 w3 w4 w5 w6 fc fd fm ff) := by
  obtain ⟨hG, he, hB, hH, hd, hRd, hr, hRr, hg, hh, hF, hT, hS, hl, hq, hfh⟩ := id hI
  obtain ⟨h0, h1, h2, h3, h4, h5, h6⟩ := id hF
  obtain ⟨m, hU⟩ := UP_ex (k := k) (a := a) (b := b) (br := br) (so := so) (lo := lo) (hm := orF hol g) (f := rac) (c := c) (e := e) (o := o) r
  obtain ⟨u1, u2, u3⟩ := id hU
  unfold fL_isTold_728
  rw [h5]
  refine it11_w (n := m) (fun i x130 w131 w132 w133 w134 w135 w136 w137 w138 w139 w140 => x130 = nI i ∧ w137 = fc ∧ SD w138 (stS rac c e o i).1 (stS rac c e o i).2.1 (stS rac c e o i).2.2) (TOK fc) ?_ N 0 0 w1 w2 w3 w4 w5 w6 fc fd fm ff (Nat.zero_le _) (by omega) ⟨rfl, rfl, hSd⟩
  rintro G i x130 w131 w132 w133 w134 w135 w136 w137 w138 w139 w140 hi ⟨q1, q2, hS1⟩
  rw [q1, q2]
  have hHi := stS_HS hG hH hRr u1 u2 i hi
  by_cases z : i < r
  · obtain ⟨hA, ex⟩ := ROW_a hG (hRr i z)
    have hw := hA.w32 hG
    have hq5 := hA.1
    obtain ⟨m', em⟩ := l_why (N := N) (fm := w139) hG hF hT hS1 hHi hA hg hfh (by omega)
    have ew := a_w (qO (rac i)) (by omega) (wO (rac i)) hw
    have e2 := a_200 (qO (rac i)) (by omega) (wO (rac i)) hw
    rw [← ex] at em ew e2
    by_cases y : i < m
    · have hv := u2 i y
      unfold vlS at hv
      refine Or.inr ⟨y, nI (i + 1), w131, w132, w133, w134, w135, w136, fc, upd w138 (qO (rac i) / 2) (w138 (qO (rac i) / 2) ^^^ ((1 : Int32) <<< (nI (wO (rac i)) &&& 31))), m', w140, ⟨rfl, rfl, SD_f hS1 hq5⟩, ?_⟩
      refine jn10_out (fun gg => ?_)
      rw [if_neg (nI_gt z (by omega)), gin_ok (show i < 30 by omega) (by omega), nI_j (show i < 2 ^ 31 by omega), hq i z, em, bd3_ok, if_pos hv, gin_ok (show i < 30 by omega) (by omega), ew, e2, gin_ok (show qO (rac i) / 2 < 3 by omega) (by omega), gin_ok (show i < 30 by omega) (by omega), gin_ok (show qO (rac i) / 2 < 3 by omega) (by omega), nI_j (show qO (rac i) / 2 < 2 ^ 31 by omega), nI_1]
    · have him : i = m := by omega
      subst him
      have hv : ¬ vlS k a b br so lo (orF hol g) rac c e o i = 0 := u3.resolve_left (by omega)
      unfold vlS at hv
      rw [jn10_to w131 w132 w133 w134 w135 w136 fc w138 m' w140 (fun gg => (if_neg (nI_gt z (by omega))).trans (by
        rw [gin_ok (show i < 30 by omega) (by omega), nI_j (show i < 2 ^ 31 by omega), hq i z, em, bd3_ok, if_neg hv]))]
      exact Or.inl (t_791 hI hU hN)
  · have him : i = m := by omega
    subst him
    rw [jn10_to w131 w132 w133 w134 w135 w136 fc w138 w139 w140 (fun gg => if_pos (nI_le (show r ≤ i by omega) (by omega)))]
    exact Or.inl (t_791 hI hU hN)
theorem t_704 (hI : INV n k a b d r g ends br so lo c e o dac rac hol ft fc fl fq fh fg) (hN : 300 ≤ N) :
    TOK fc (fL_isTold_704 N (nI n) (nI k) br so lo ends c e o (nI r) rac (nI g) hol fg ft fh fq w1 w2 w3 w4 w5 w6 fc fd fm ff) := by
  have hS := hI.2.2.2.2.2.2.2.2.2.2.2.2.1
  unfold fL_isTold_704
  refine it11_w (n := 3) (fun i x116 w117 w118 w119 w120 w121 w122 w123 w124 w125 w126 => x116 = nI i ∧ w123 = fc ∧ ∀ j, j < i → w124 j = fc j) (TOK fc) ?_ N 0 0 w1 w2 w3 w4 w5 w6 fc fd fm ff (Nat.zero_le _) (by omega) ⟨rfl, rfl, fun j hj => absurd hj (Nat.not_lt_zero j)⟩
  rintro G i x116 w117 w118 w119 w120 w121 w122 w123 w124 w125 w126 hi ⟨q1, q2, q3⟩
  rw [q1, q2]
  have c3 : (3 : Int32) ≤ nI i ↔ 3 ≤ i := nI_leI (a := 3) (by omega) (by omega)
  by_cases z : 3 ≤ i
  · rw [if_pos (c3.mpr z)]
    exact Or.inl (t_728 hI ⟨by rw [q3 0 (by omega)]; exact hS.1, by rw [q3 1 (by omega)]; exact hS.2.1, by rw [q3 2 (by omega)]; exact hS.2.2⟩ hN)
  · refine Or.inr ⟨by omega, nI (i + 1), w117, w118, w119, w120, w121, w122, fc, upd w124 i (fc i), w125, w126, ⟨rfl, rfl, fun j hj => ?_⟩, ?_⟩
    · by_cases t : j = i
      · rw [t, upd_s]
      · rw [upd_o t]; exact q3 j (by omega)
    · rw [if_neg (fun y => z (c3.mp y)), gin_ok (show i < 3 by omega) (by omega), gin_ok (show i < 3 by omega) (by omega), nI_j (show i < 2 ^ 31 by omega), nI_1]
theorem t_647 {ρ : Type} {jj : Nat} {x101 w102 w103 w104 : Int32} {w109 w110 w111 : Nat → Int32} (G : Nat → Int32 → Int32 → Int32 → Int32 → Int32 → Int32 → Int32 → (Nat → Int32) → (Nat → Int32) → (Nat → Int32) → (Nat → Int32) → Option (Int32 × Int32 × Int32 × Int32 × Int32 × Int32 × (Nat → Int32) × (Nat → Int32) × (Nat → Int32) × (Nat → Int32))) (hI : INV n k a b d r g ends br so lo c e o dac rac hol ft fc fl fq fh fg) (hA : ACT n k q w) (hN : 300 ≤ N) :
    ∃ x y z m', fL_isTold_647 N (nI n) (nI k) br so lo ends c e o (nI g) hol w4 w5 w6 (nI (100 * q + w)) ft w110 fh fg fc (nI d) dac (nI (ctN (fun i => decide (fl i = nI (100 * q + w))) d)) G jj x101 w102 w103 w104 w109 w111 = G (jj + 1) (x101 + 1) w102 w103 w104 x y z fc w109 m' w111 := by
  obtain ⟨hG, he, hB, hH, hd, hRd, hr, hRr, hg, hh, hF, hT, hS, hl, hq, hfh⟩ := id hI
  have hw := hA.w32 hG
  have hq5 := hA.1
  obtain ⟨x, y, z, eR⟩ := lR_ok (N := N) (hol := hol) (br := br) (ac := w4) (ae := w5) (ao := w6) hG he hH hA hg (by omega)
  obtain ⟨m', em⟩ := l_why (N := N) (fm := w110) hG hF hT hS hH hA hg hfh (by omega)
  refine ⟨x, y, z, m', ?_⟩
  unfold fL_isTold_647
  rw [a_w q (by omega) w hw, a_q q (by omega) w hw, eR, bd4_ok, em, bd3_ok, if_pos rfl, cT_ok hG hA (by omega) hN, bh1_ok, if_pos (show nI (ctN (fun i => decide (dac i = nI (100 * q + w))) d) = nI (ctN (fun i => decide (fl i = nI (100 * q + w))) d) from congrArg nI (ctN_c d (fun i hi => by rw [hl i hi])))]
theorem t_583 (hI : INV n k a b d r g ends br so lo c e o dac rac hol ft fc fl fq fh fg) (hn0 : 0 < n) (hN : 300 ≤ N) :
    TOK fc (fL_isTold_583 N (nI n) (nI k) br so lo ends c e o (nI r) rac (nI g) hol fg ft fh fq p1 (nI d) dac fl w1 w2 w3 w4 w5 w6 fc fd fm ff) := by
  obtain ⟨hG, he, hB, hH, hd, hRd, hr, hRr, hg, hh, hF, hT, hS, hl, hq, hfh⟩ := id hI
  obtain ⟨h0, h1, h2, h3, h4, h5, h6⟩ := id hF
  unfold fL_isTold_583
  refine it12_w (n := 6) (fun i jj x101 w102 w103 w104 w105 w106 w107 w108 w109 w110 w111 => jj = i ∧ x101 = nI i ∧ w108 = fc) (TOK fc) ?_ N 0 0 0 w1 w2 w3 w4 w5 w6 fc fd fm ff (Nat.zero_le _) (by omega) ⟨rfl, rfl, rfl⟩
  rintro G i jj x101 w102 w103 w104 w105 w106 w107 w108 w109 w110 w111 hi ⟨q1, q2, q3⟩
  rw [q1, q2, q3]
  have c6 : (6 : Int32) ≤ nI i ↔ 6 ≤ i := nI_leI (a := 6) (by omega) (by omega)
  rw [gd_lt (show i < 100 by omega)]
  by_cases z : 6 ≤ i
  · rw [if_pos (c6.mpr z)]
    exact Or.inl (t_704 hI hN)
  · obtain ⟨q, w, hA, er⟩ := l_rand (N := N) (y := p1 >>> (((2 : Int32) * nI i) &&& 31)) hn0 hG.1 hG.2.1 h0 h1
    rw [if_neg (fun y => z (c6.mp y)), er, bd1_ok, h4]
    refine Or.inr ⟨by omega, ?_⟩
    refine it2_w (n := d) (fun s x197 x198 => x197 = nI s ∧ x198 = nI (ctN (fun i => decide (fl i = nI (100 * q + w))) s)) (fun R => ∃ (y1 : Nat) (y2 y3 y4 y5 y6 y7 y8 : Int32) (y9 y10 y11 y12 : Nat → Int32), (y1 = i + 1 ∧ y2 = nI (i + 1) ∧ y9 = fc) ∧ R = G y1 y2 y3 y4 y5 y6 y7 y8 y9 y10 y11 y12) ?_ N 0 0 0 (Nat.zero_le _) (by omega) ⟨rfl, rfl⟩
    rintro G2 s x197 x198 hs ⟨e1, e2⟩
    rw [e1, e2]
    by_cases y : s < d
    · refine Or.inr ⟨y, nI (s + 1), nI (ctN (fun i => decide (fl i = nI (100 * q + w))) (s + 1)), ⟨rfl, rfl⟩, ?_⟩
      rw [if_neg (nI_gt y (by omega)), gin_ok (show s < 60 by omega) (by omega), nI_j (show s < 2 ^ 31 by omega), nI_1, ctN]
      by_cases t : fl s = nI (100 * q + w)
      · rw [if_pos t, if_pos (by simp [t]), nI_1]
      · rw [if_neg t, if_neg (by simp [t]), Int32.add_zero]
        rfl
    · have hsd : s = d := by omega
      subst hsd
      rw [if_pos (nI_le (Nat.le_refl _) (by omega))]
      obtain ⟨x, y', z', m', e9⟩ := t_647 (ρ := Unit) (N := N) (jj := i) (x101 := nI i) (w102 := w102) (w103 := w103) (w104 := w104) (w4 := w105) (w5 := w106) (w6 := w107) (w109 := w109) (w110 := w110) (w111 := w111) G hI hA hN
      exact Or.inl ⟨_, _, _, _, _, _, _, _, _, _, _, _, ⟨rfl, nI_1 i, rfl⟩, e9⟩
/-- the law's distances -/
def FV (n k : Nat) (a b : Nat → Nat) (c o : Int32) (i : Nat) (f : Nat → Int32) : Prop := ∀ v, v < n → (∀ s, s ≤ i → bt (RS k a b c o s) v = true → (∀ j, j < s → ¬ bt (RS k a b c o j) v = true) → f v = nI s) ∧ ((∀ s, s ≤ i → ¬ bt (RS k a b c o s) v = true) → f v = 99)
theorem t_534 (hI : INV n k a b d r g ends br so lo c e o dac rac hol ft fc fl fq fh fg) (hn0 : 0 < n) (hV : FV n k a b c o 16 ff) (hN : 300 ≤ N) :
    TOK fc (fL_isTold_534 N fg (nI n) (nI k) br so lo ends c e o (nI r) rac (nI g) hol ft fh fq p1 (nI d) dac fl w1 w2 w3 w4 w5 w6 fc fd fm ff) := by
  obtain ⟨hG, he, hB, hH, hd, hRd, hr, hRr, hg, hh, hF, hT, hS, hl, hq, hfh⟩ := id hI
  obtain ⟨h0, h1, h2, h3, h4, h5, h6⟩ := id hF
  have hn := hG.1
  have ho := hH.o
  unfold fL_isTold_534
  rw [h0]
  refine it2_w (n := n) (fun i jj x96 => jj = i ∧ x96 = nI i) (TOK fc) ?_ N 0 0 0 (Nat.zero_le _) (by omega) ⟨rfl, rfl⟩
  rintro G i jj x96 hi ⟨q1, q2⟩
  rw [q1, q2, gd_lt (show i < 100 by omega)]
  by_cases z : i < n
  · rw [if_neg (nI_gt z (by omega))]
    refine Or.inr ⟨z, i + 1, nI (i + 1), ⟨rfl, rfl⟩, ?_⟩
    rcases lTo_ok (N := N) (c := c) (e := e) (o := o) (br := br) (so := so) (lo := lo) hG he z (by omega) with ⟨i0, t1, t2, t3, t4⟩ | ⟨t3, t4⟩
    · have hf : ff i = nI i0 := (hV i z).1 i0 (by omega) ((RS_RR hG ho z i0).mpr t2) (fun j hj hb => (RS_RR hG ho z j).mp hb (t3 j hj))
      rw [t4, bd1_ok, gin_ok (show i < 16 by omega) (by omega), gin_ok (show i < 16 by omega) (by omega), nI_j (show i < 2 ^ 31 by omega), hf, if_neg (show ¬ nI i0 = 99 from fun y => by have := (nI_eq (b := 99) (by omega) (by omega)).mp y; omega), if_pos rfl, nI_1]
    · have hf : ff i = 99 := (hV i z).2 (fun s hs hb => by
        have h7 := (RS_RR hG ho z s).mp hb
        obtain ⟨v, v1, v2⟩ := q_andN.mp h7
        obtain ⟨j, j1, j2⟩ := RR_fin hG z v1
        exact q_and0.mp (t3 j j1) v j2 v2)
      rw [t4, bd1_ok, gin_ok (show i < 16 by omega) (by omega), nI_j (show i < 2 ^ 31 by omega), hf, if_pos rfl, if_pos rfl, nI_1]
  · have hin : i = n := by omega
    subst hin
    rw [if_pos (nI_le (Nat.le_refl _) (by omega))]
    exact Or.inl (t_583 hI hn0 hN)
theorem t_478 {x81 x226 : Int32} (G : Int32 → Int32 → Int32 → Int32 → Int32 → Int32 → Int32 → Int32 → (Nat → Int32) → (Nat → Int32) → (Nat → Int32) → (Nat → Int32) → Option (Int32 × Int32 × Int32 × Int32 × Int32 × Int32 × (Nat → Int32) × (Nat → Int32) × (Nat → Int32) × (Nat → Int32))) (hn : n ≤ 16) (h0 : fg 0 = nI n) (hN : 300 ≤ N) :
    ∃ f', (∀ v, v < n → f' v = if bt x226 v = true ∧ ff v = 99 then x81 else ff v) ∧ fL_isTold_478 N fg G x81 x226 w1 w2 w3 w4 w5 w6 fc fd fm ff = G (x81 + 1) x226 w1 w2 w3 w4 w5 w6 fc fd fm f' := by
  unfold fL_isTold_478
  rw [h0]
  refine it11_w (n := n) (fun i x230 w231 w232 w233 w234 w235 w236 w237 w238 w239 w240 => x230 = nI i ∧ w231 = w1 ∧ w232 = w2 ∧ w233 = w3 ∧ w234 = w4 ∧ w235 = w5 ∧ w236 = w6 ∧ w237 = fc ∧ w238 = fd ∧ w239 = fm ∧ (∀ v, v < i → w240 v = if bt x226 v = true ∧ ff v = 99 then x81 else ff v) ∧ ∀ v, i ≤ v → w240 v = ff v) (fun R => ∃ f', (∀ v, v < n → f' v = if bt x226 v = true ∧ ff v = 99 then x81 else ff v) ∧ R = G (x81 + 1) x226 w1 w2 w3 w4 w5 w6 fc fd fm f') ?_ N 0 0 w1 w2 w3 w4 w5 w6 fc fd fm ff (Nat.zero_le _) (by omega) ⟨rfl, rfl, rfl, rfl, rfl, rfl, rfl, rfl, rfl, rfl, fun v hv => absurd hv (Nat.not_lt_zero v), fun v _ => rfl⟩
  rintro G2 i x230 w231 w232 w233 w234 w235 w236 w237 w238 w239 w240 hi ⟨q1, q2, q3, q4, q5, q6, q7, q8, q9, q10, q11, q12⟩
  rw [q1, q2, q3, q4, q5, q6, q7, q8, q9, q10]
  by_cases z : i < n
  · have hfi := q12 i (Nat.le_refl i)
    rw [if_neg (nI_gt z (by omega))]
    by_cases y : bt x226 i = true ∧ ff i = 99
    · refine Or.inr ⟨z, nI (i + 1), w1, w2, w3, w4, w5, w6, fc, fd, fm, upd w240 i x81, ⟨rfl, rfl, rfl, rfl, rfl, rfl, rfl, rfl, rfl, rfl, fun v hv => ?_, fun v hv => ?_⟩, ?_⟩
      · by_cases t : v = i
        · rw [t, upd_s, if_pos y]
        · rw [upd_o t]; exact q11 v (by omega)
      · rw [upd_o (by omega)]; exact q12 v (by omega)
      · rw [if_pos ((q_t1 (by omega)).mpr y.1), gin_ok (show i < 16 by omega) (by omega), nI_j (show i < 2 ^ 31 by omega), hfi, if_pos y.2, gin_ok (show i < 16 by omega) (by omega), nI_1]
    · refine Or.inr ⟨z, nI (i + 1), w1, w2, w3, w4, w5, w6, fc, fd, fm, w240, ⟨rfl, rfl, rfl, rfl, rfl, rfl, rfl, rfl, rfl, rfl, fun v hv => ?_, fun v hv => q12 v (by omega)⟩, ?_⟩
      · by_cases t : v = i
        · rw [t, if_neg y, hfi]
        · exact q11 v (by omega)
      · by_cases t : bt x226 i = true
        · rw [if_pos ((q_t1 (by omega)).mpr t), gin_ok (show i < 16 by omega) (by omega), nI_j (show i < 2 ^ 31 by omega), hfi, if_neg (fun v => y ⟨t, v⟩), nI_1]
        · rw [if_neg (fun v => t ((q_t1 (by omega)).mp v)), nI_1]
  · have hin : i = n := by omega
    subst hin
    rw [if_pos (nI_le (Nat.le_refl _) (by omega))]
    exact Or.inl ⟨w240, q11, rfl⟩
theorem or_t1 {x : Int32} {i j : Nat} (hi : i < 32) (hj : j < 32) : ((x >>> (nI i &&& 31)) ||| (x >>> (nI j &&& 31))) &&& 1 = 1 ↔ bt x i = true ∨ bt x j = true := by
  have e1 : ((x >>> (nI i &&& 31)) ||| (x >>> (nI j &&& 31))) &&& 1 = ((x >>> (nI i &&& 31)) &&& 1) ||| ((x >>> (nI j &&& 31)) &&& 1) := b_ext (fun v _ => by rw [b_and, b_or, b_or, b_and, b_and, Bool.and_or_distrib_right])
  rw [e1, q_tst hi, q_tst hj]
  cases bt x i <;> cases bt x j <;> decide
theorem t_385 (hI : INV n k a b d r g ends br so lo c e o dac rac hol ft fc fl fq fh fg) (hn0 : 0 < n) (hm : ∀ v, v < n → fm v = CL k a b c ((1 : Int32) <<< (nI v &&& 31))) (hV : FV n k a b c o 0 ff) (hN : 300 ≤ N) :
    TOK fc (fL_isTold_385 N fg (nI n) (nI k) br so lo ends c e o (nI r) rac (nI g) hol ft fh fq p1 (nI d) dac fl (CL k a b c o) w1 w2 w3 w4 w5 w6 fc fd fm ff) := by
  obtain ⟨hG, he, hB, hH, hd, hRd, hr, hRr, hg, hh, hF, hT, hS, hl, hq, hfh⟩ := id hI
  obtain ⟨h0, h1, h2, h3, h4, h5, h6⟩ := id hF
  have hn := hG.1
  have hk := hG.2.1
  have ho := hH.o
  unfold fL_isTold_385
  refine it12_w (n := 16) (fun i x81 x82 w83 w84 w85 w86 w87 w88 w89 w90 w91 w92 => x81 = nI (i + 1) ∧ x82 = RS k a b c o i ∧ w89 = fc ∧ w91 = fm ∧ FV n k a b c o i w92) (TOK fc) ?_ N 0 1 (CL k a b c o) w1 w2 w3 w4 w5 w6 fc fd fm ff (Nat.zero_le _) (by omega) ⟨rfl, rfl, rfl, rfl, hV⟩
  rintro G i x81 x82 w83 w84 w85 w86 w87 w88 w89 w90 w91 w92 hi ⟨q1, q2, q3, q4, q5⟩
  rw [q1, q2, q3, q4, h1]
  have c17 : (17 : Int32) ≤ nI (i + 1) ↔ 17 ≤ i + 1 := nI_leI (a := 17) (by omega) (by omega)
  by_cases z : 17 ≤ i + 1
  · have hi16 : i = 16 := by omega
    subst hi16
    rw [if_pos (c17.mpr z)]
    exact Or.inl (t_534 hI hn0 q5 hN)
  · rw [if_neg (fun y => z (c17.mp y))]
    refine Or.inr ⟨by omega, ?_⟩
    refine it2_w (n := k) (fun s x225 x226 => x225 = nI s ∧ ∀ v, bt x226 v = true ↔ bt (RS k a b c o i) v = true ∨ ∃ t, t < s ∧ (bt (RS k a b c o i) (a t) = true ∨ bt (RS k a b c o i) (b t) = true) ∧ (cn k a b c (a t) v ∨ cn k a b c (b t) v)) (fun R => ∃ (y1 y2 y3 y4 y5 y6 y7 y8 : Int32) (y9 y10 y11 y12 : Nat → Int32), (y1 = nI (i + 1 + 1) ∧ y2 = RS k a b c o (i + 1) ∧ y9 = fc ∧ y11 = fm ∧ FV n k a b c o (i + 1) y12) ∧ R = G y1 y2 y3 y4 y5 y6 y7 y8 y9 y10 y11 y12) ?_ N 0 0 (RS k a b c o i) (Nat.zero_le _) (by omega) ⟨rfl, fun v => ⟨Or.inl, fun h => h.elim id (fun ⟨t, ht, _⟩ => absurd ht (Nat.not_lt_zero t))⟩⟩
    rintro G2 s x225 x226 hs ⟨e1, e2⟩
    rw [e1]
    by_cases y : s < k
    · obtain ⟨ha, hb, -⟩ := hG.2.2 s y
      rw [if_neg (nI_gt y (by omega))]
      simp only [gin_ok (show s < 24 by omega) (show 24 < 2 ^ 31 by omega), nI_j (show s < 2 ^ 31 by omega), hT s y, tw_lo (a s) (by omega) (b s) (by omega), tw_hi (a s) (by omega) (b s) (by omega), gin_ok (show a s < 16 by omega) (show 16 < 2 ^ 31 by omega), gin_ok (show b s < 16 by omega) (show 16 < 2 ^ 31 by omega), nI_j (show a s < 2 ^ 31 by omega), nI_j (show b s < 2 ^ 31 by omega), nI_1]
      by_cases t : bt (RS k a b c o i) (a s) = true ∨ bt (RS k a b c o i) (b s) = true
      · rw [if_pos ((or_t1 (by omega) (by omega)).mpr t)]
        refine Or.inr ⟨y, nI (s + 1), x226 ||| (fm (a s) ||| fm (b s)), ⟨rfl, fun v => ?_⟩, rfl⟩
        rw [b_or, b_or, Bool.or_eq_true, Bool.or_eq_true, e2 v, hm (a s) ha, hm (b s) hb, cl_bit hG ha, cl_bit hG hb]
        constructor
        · rintro ((h | ⟨t', x1, x2⟩) | h)
          · exact Or.inl h
          · exact Or.inr ⟨t', by omega, x2⟩
          · exact Or.inr ⟨s, by omega, t, h⟩
        · rintro (h | ⟨t', x1, x2, x3⟩)
          · exact Or.inl (Or.inl h)
          · by_cases u : t' = s
            · rw [u] at x3; exact Or.inr x3
            · exact Or.inl (Or.inr ⟨t', by omega, x2, x3⟩)
      · rw [if_neg (fun v => t ((or_t1 (by omega) (by omega)).mp v))]
        refine Or.inr ⟨y, nI (s + 1), x226, ⟨rfl, fun v => ?_⟩, rfl⟩
        rw [e2 v]
        constructor
        · rintro (h | ⟨t', x1, x2⟩)
          · exact Or.inl h
          · exact Or.inr ⟨t', by omega, x2⟩
        · rintro (h | ⟨t', x1, x2, x3⟩)
          · exact Or.inl h
          · by_cases u : t' = s
            · rw [u] at x2; exact absurd x2 t
            · exact Or.inr ⟨t', by omega, x2, x3⟩
    · have hsk : s = k := by omega
      subst hsk
      have hnx := RS_nx (X := x226) (i := i) hG ho e2
      rw [if_pos (nI_le (Nat.le_refl _) (by omega))]
      obtain ⟨f', f1, f2⟩ := t_478 (n := n) (N := N) (fg := fg) (x81 := nI (i + 1)) (x226 := x226) (w1 := w83) (w2 := w84) (w3 := w85) (w4 := w86) (w5 := w87) (w6 := w88) (fc := fc) (fd := w90) (fm := fm) (ff := w92) G hn h0 hN
      refine Or.inl ⟨_, _, _, _, _, _, _, _, _, _, _, f', ⟨nI_1 (i + 1), hnx, rfl, rfl, fun v hv => ?_⟩, f2⟩
      rw [hnx] at f1
      obtain ⟨g1, g2⟩ := q5 v hv
      refine ⟨fun s' hs' hb hmin => ?_, fun hno => ?_⟩
      · by_cases u : s' ≤ i
        · have hf := g1 s' u hb hmin
          rw [f1 v hv, if_neg (fun x => by
            rw [hf] at x
            have := (nI_eq (b := 99) (by omega) (by omega)).mp x.2
            omega), hf]
        · have hsi : s' = i + 1 := by omega
          rw [hsi] at hb hmin ⊢
          have hf := g2 (fun s'' hs'' => hmin s'' (by omega))
          rw [f1 v hv, if_pos ⟨hb, hf⟩]
      · have hf := g2 (fun s'' hs'' => hno s'' (by omega))
        rw [f1 v hv, if_neg (fun x => hno (i + 1) (Nat.le_refl _) x.1), hf]
theorem t_336 {tc te to ac ae ao : Int32} (hI : INV n k a b d r g ends br so lo c e o dac rac hol ft fc fl fq fh fg) (hm : ∀ v, v < n → fm v = CL k a b c ((1 : Int32) <<< (nI v &&& 31))) (hN : 300 ≤ N) :
    TOK fc (fL_isTold_336 N fg tc te to ac ae ao fc fd fm ff (nI n) (nI k) br so lo ends c e o (nI r) rac (nI g) hol ft fh fq p1 (nI d) dac fl (CL k a b c o)) := by
  obtain ⟨hG, he, hB, hH, hd, hRd, hr, hRr, hg, hh, hF, hT, hS, hl, hq, hfh⟩ := id hI
  obtain ⟨h0, h1, h2, h3, h4, h5, h6⟩ := id hF
  have hn := hG.1
  unfold fL_isTold_336
  rw [h0]
  by_cases z : n = 0
  · rw [if_pos (by rw [z]; rfl)]
    exact ⟨_, _, _, _, _, _, _, _, _, rfl⟩
  · rw [if_neg (nI_ne0 (by omega) (by omega))]
    refine it11_w (n := n) (fun i x67 w68 w69 w70 w71 w72 w73 w74 w75 w76 w77 => x67 = nI i ∧ w74 = fc ∧ w76 = fm ∧ ∀ v, v < i → w77 v = if bt (CL k a b c o) v = true then 0 else 99) (TOK fc) ?_ N 0 0 tc te to ac ae ao fc fd fm ff (Nat.zero_le _) (by omega) ⟨rfl, rfl, rfl, fun v hv => absurd hv (Nat.not_lt_zero v)⟩
    rintro G i x67 w68 w69 w70 w71 w72 w73 w74 w75 w76 w77 hi ⟨q1, q2, q3, q4⟩
    rw [q1, q2, q3]
    by_cases y : i < n
    · rw [if_neg (nI_gt y (by omega))]
      by_cases t : bt (CL k a b c o) i = true
      · refine Or.inr ⟨y, nI (i + 1), w68, w69, w70, w71, w72, w73, fc, w75, fm, upd w77 i 0, ⟨rfl, rfl, rfl, fun v hv => ?_⟩, ?_⟩
        · by_cases u : v = i
          · rw [u, upd_s, if_pos t]
          · rw [upd_o u]; exact q4 v (by omega)
        · rw [if_pos ((q_t1 (by omega)).mpr t), gin_ok (show i < 16 by omega) (by omega), nI_j (show i < 2 ^ 31 by omega), nI_1]
      · refine Or.inr ⟨y, nI (i + 1), w68, w69, w70, w71, w72, w73, fc, w75, fm, upd w77 i 99, ⟨rfl, rfl, rfl, fun v hv => ?_⟩, ?_⟩
        · by_cases u : v = i
          · rw [u, upd_s, if_neg t]
          · rw [upd_o u]; exact q4 v (by omega)
        · rw [if_neg (fun v => t ((q_t1 (by omega)).mp v)), gin_ok (show i < 16 by omega) (by omega), nI_j (show i < 2 ^ 31 by omega), nI_1]
    · have hin : i = n := by omega
      subst hin
      rw [if_pos (nI_le (Nat.le_refl _) (by omega))]
      refine Or.inl (t_385 hI (by omega) hm (fun v hv => ⟨fun s hs hb _ => ?_, fun hno => ?_⟩) hN)
      · have : s = 0 := by omega
        subst this
        rw [q4 v hv, if_pos (show bt (CL k a b c o) v = true from hb)]
        rfl
      · rw [q4 v hv, if_neg (show ¬ bt (CL k a b c o) v = true from hno 0 (Nat.le_refl 0))]
theorem t_295 {tc te to ac ae ao : Int32} (hI : INV n k a b d r g ends br so lo c e o dac rac hol ft fc fl fq fh fg) (hm : ∀ v, v < n → fm v = CL k a b c ((1 : Int32) <<< (nI v &&& 31))) (hN : 300 ≤ N) :
    TOK fc (fL_isTold_295 N fg tc te to ac ae ao fc fd fm ff (nI n) (nI k) br so lo ends c e o (nI r) rac (nI g) hol ft fh fq p1 (nI d) dac fl (CL k a b c o)) := by
  obtain ⟨hG, he, hB, hH, hd, hRd, hr, hRr, hg, hh, hF, hT, hS, hl, hq, hfh⟩ := id hI
  obtain ⟨h0, h1, h2, h3, h4, h5, h6⟩ := id hF
  unfold fL_isTold_295
  rw [h4]
  refine it2_w (n := d) (fun i jj x61 => jj = i ∧ x61 = nI i) (TOK fc) ?_ N 0 0 0 (Nat.zero_le _) (by omega) ⟨rfl, rfl⟩
  rintro G i jj x61 hi ⟨q1, q2⟩
  rw [q1, q2, gd_lt (show i < 100 by omega)]
  by_cases z : i < d
  · refine Or.inr ⟨z, i + 1, nI (i + 1), ⟨rfl, rfl⟩, ?_⟩
    rw [if_neg (nI_gt z (by omega)), lL_ok z (by omega), bd1_ok, nI_m1 z, gin_ok (show d - 1 - i < 60 by omega) (by omega), nI_j (show d - 1 - i < 2 ^ 31 by omega), hl _ (by omega), if_pos rfl, nI_1]
  · have hid : i = d := by omega
    subst hid
    rw [if_pos (nI_le (Nat.le_refl _) (by omega))]
    exact Or.inl (t_336 hI hm hN)
theorem t_85 {tc te to ac ae ao : Int32} (hI : INV n k a b d r g ends br so lo c e o dac rac hol ft fc fl fq fh fg) (hm : ∀ v, v < n → fm v = CL k a b c ((1 : Int32) <<< (nI v &&& 31))) (hN : 300 ≤ N) :
    TOK fc (fL_isTold_85 N (nI n) (nI k) br so lo ends c e o (CL k a b c o) fm fg fc (nI (ctN (rep k a b c) n)) (nI g) hol fh (nI d) dac tc te to ac ae ao fd ff (nI r) rac ft fq p1 fl) := by
  obtain ⟨hG, he, hB, hH, hd, hRd, hr, hRr, hg, hh, hF, hT, hS, hl, hq, hfh⟩ := id hI
  obtain ⟨h0, h1, h2, h3, h4, h5, h6⟩ := id hF
  obtain ⟨s0, s1, s2⟩ := id hS
  have hn := hG.1
  have hk := hG.2.1
  have ho := hH.o
  have hie := hH.2.2.2.1
  have e1 : fX4_live N (nI n) (nI k) br so lo ends c e o = some (CL k a b c o) := by unfold fX4_live; rw [c_live hG he ho (by omega), bd1_ok]
  have e2 : fX4_earthed N (nI n) (nI k) br so lo ends c e o = some (CL k a b c e) := by unfold fX4_earthed; rw [c_earthed hG he hie (by omega), bd1_ok]
  have e3 : fX4_loaded N (nI n) (nI k) br so lo ends c e o = some (CL k a b c o &&& CL k a b c lo) := by unfold fX4_loaded; rw [c_loaded hG he ho hH.2.1 (by omega), bd1_ok]
  have e4 : fX4_parts N (nI n) (nI k) br so lo ends c e o = some (nI (ctN (rep k a b c) n)) := by unfold fX4_parts; rw [c_parts hG he (by omega), bd1_ok]
  have e5 : fX4_held N (nI g) hol = some (orF hol g) := by unfold fX4_held; rw [c_held hg (by omega), bd1_ok]
  have e6 : fX4_nodes N (nI n) (nI k) br so lo = some (nI n) := rfl
  have e7 : fX4_switches N (nI n) (nI k) br so lo = some (nI k) := rfl
  have e8 : fX4_log N (nI d) = some (nI d) := rfl
  unfold fL_isTold_85
  rw [e1, bd1_ok, if_pos rfl, e2, bd1_ok, s1, l_with hG h0 hm hie (by omega), bd1_ok, if_pos rfl, e3, bd1_ok, h3, l_with hG h0 hm hH.2.1 (by omega), bd1_ok, if_pos rfl, e4, bd1_ok, if_pos rfl, e5, bd1_ok, l_held h6 hg hfh (by omega), bd1_ok, if_pos rfl, e6, bd1_ok, h0, if_pos rfl, e7, bd1_ok, h1, if_pos rfl, e8, bd1_ok, h4, if_pos rfl, lPa_x hn (NIN_self (by omega)), bd1_ok, if_pos rfl, lPa_x hn (NIN_m1 (by omega)), bd1_ok, if_pos rfl, lTo_x hn (NIN_self (by omega)), bd1_ok, if_pos rfl, lL_n (by omega), bd1_ok, if_pos rfl, lL_m1, bd1_ok, if_pos rfl, s0]
  refine it2_w (n := k) (fun i jj x56 => jj = i ∧ x56 = nI i) (TOK fc) ?_ N 0 0 0 (Nat.zero_le _) (by omega) ⟨rfl, rfl⟩
  rintro G i jj x56 hi ⟨q1, q2⟩
  rw [q1, q2, gd_lt (show i < 100 by omega)]
  by_cases z : i < k
  · refine Or.inr ⟨z, i + 1, nI (i + 1), ⟨rfl, rfl⟩, ?_⟩
    rw [if_neg (nI_gt z (by omega)), cI_ok hk z, bh1_ok]
    by_cases y : bt c i = true
    · rw [if_pos ((q_t1 (by omega)).mpr y), bI_1 y, if_pos rfl, nI_1]
    · rw [if_neg (fun v => y ((q_t1 (by omega)).mp v)), bI_0 y, if_pos rfl, nI_1]
  · have hik : i = k := by omega
    subst hik
    rw [if_pos (nI_le (Nat.le_refl _) (by omega))]
    exact Or.inl (t_295 hI hm hN)
/-- isTold -/
theorem x_told {tc te to ac ae ao : Int32} (hI : INV n k a b d r g ends br so lo c e o dac rac hol ft fc fl fq fh fg) (hN : 300 ≤ N) :
    TOK fc (fL_isTold N (nI n) (nI k) br so lo ends c e o (nI d) dac (nI r) rac (nI g) hol tc te to ac ae ao ft fc fd fm fl fq fh ff fg p1) := by
  obtain ⟨hG, he, hB, hH, hd, hRd, hr, hRr, hg, hh, hF, hT, hS, hl, hq, hfh⟩ := id hI
  obtain ⟨h0, h1, h2, h3, h4, h5, h6⟩ := id hF
  obtain ⟨s0, s1, s2⟩ := id hS
  have hn := hG.1
  have ho := hH.o
  obtain ⟨m', em, hm⟩ := l_lay (N := N) (fm := fm) (C := c) hG h0 h1 hT (by omega)
  unfold fL_isTold
  rw [s0, em, bd1_ok, s2, l_with hG h0 hm ho (by omega), bd1_ok, h0]
  refine it3_w (n := n) (fun i jj x5 x6 => jj = i ∧ x5 = nI i ∧ x6 = nI (ctN (rep k a b c) i)) (TOK fc) ?_ N 0 0 0 0 (Nat.zero_le _) (by omega) ⟨rfl, rfl, rfl⟩
  rintro G i jj x5 x6 hi ⟨q1, q2, q3⟩
  rw [q1, q2, q3, gd_lt (show i < 100 by omega)]
  by_cases z : i < n
  · refine Or.inr ⟨z, i + 1, nI (i + 1), nI (ctN (rep k a b c) (i + 1)), ⟨rfl, rfl, rfl⟩, ?_⟩
    have hrp : m' i &&& (((1 : Int32) <<< (nI i &&& 31)) - 1) = 0 ↔ rep k a b c i = true := by
      rw [hm i z, q_and0, rep_t]
      constructor
      · intro h u hu hc
        exact h u ((cl_bit hG z).mpr hc.sm) (by rw [q_all i (by omega) u (by omega)]; simpa using hu)
      · intro h u h7 h8
        have hc := (cl_bit hG z).mp h7
        rw [q_all i (by omega) u (b_lt h7)] at h8
        exact h u (by simpa using h8) hc.sm
    rw [if_neg (nI_gt z (by omega)), lPa_ok hG he z (by omega), bd1_ok, gin_ok (show i < 16 by omega) (by omega), gin_ok (show i < 16 by omega) (by omega), nI_j (show i < 2 ^ 31 by omega), if_pos (hm i z).symm, nI_1, ctN]
    by_cases y : rep k a b c i = true
    · rw [if_pos (hrp.mpr y), if_pos y, nI_1]
    · rw [if_neg (fun v => y (hrp.mp v)), if_neg y, Int32.add_zero]
      rfl
  · have hin : i = n := by omega
    subst hin
    rw [if_pos (nI_le (Nat.le_refl _) (by omega))]
    exact Or.inl (t_85 hI hm hN)
end TOLD
