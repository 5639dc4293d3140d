/-! why: the law's reason is the class's -/
theorem RSN_c {P Q R S P' Q' R' S' : Prop} (h1 : P ↔ P') (h2 : Q ↔ Q') (h3 : R ↔ R') (h4 : S ↔ S') : RSN P Q R S = RSN P' Q' R' S' := by
  rw [propext h1, propext h2, propext h3, propext h4]
theorem upd_undo {f : Nat → Int32} {i : Nat} {x : Int32} : upd (upd f i x) i (f i) = f := by
  funext j
  by_cases z : j = i
  · rw [z, upd_s]
  · rw [upd_o z, upd_o z]
theorem a_h : ∀ q, q < 6 → nI q / 2 = nI (q / 2) := by decide +kernel
theorem bI_e {P Q : Prop} : bI P = bI Q ↔ (P ↔ Q) := by
  by_cases p : P
  · by_cases q : Q
    · rw [bI_1 p, bI_1 q]; simp [p, q]
    · rw [bI_1 p, bI_0 q]; simp [p, q]
  · by_cases q : Q
    · rw [bI_0 p, bI_1 q]; simp [p, q]
    · rw [bI_0 p, bI_0 q]; simp [p, q]
section WHY
variable {n k : Nat} {a b : Nat → Nat} {br so lo c e o hm : Int32} {N d r g q w : Nat} {ft fm fg fh fd hol : Nat → Int32} {p5 : Int32}
theorem fl_at (hS : SD fd c e o) (hq : q ≤ 5) : (upd fd (q / 2) (fd (q / 2) ^^^ ((1 : Int32) <<< (nI w &&& 31)))) 0 = flC q c w ∧ (upd fd (q / 2) (fd (q / 2) ^^^ ((1 : Int32) <<< (nI w &&& 31)))) 1 = flE q e w ∧ (upd fd (q / 2) (fd (q / 2) ^^^ ((1 : Int32) <<< (nI w &&& 31)))) 2 = flO q o w := by
  obtain ⟨s0, s1, s2⟩ := hS
  rcases six hq with rfl | rfl | rfl | rfl | rfl | rfl <;> simp [upd, flC, flE, flO, s0, s1, s2]
theorem SFE_if {ρ : Type} {gg : Int32 → Option ρ} {E O h : Int32} : (if h &&& (CL k a b E e ^^^ (-1)) = 0 then (if h &&& O = 0 then gg 1 else gg 0) else gg 0) = gg (bI (∀ v, bt h v = true → bt (CL k a b E e) v = true ∧ ¬ bt O v = true)) := by
  have h1 : h &&& (CL k a b E e ^^^ (-1)) = 0 ↔ ∀ v, bt h v = true → bt (CL k a b E e) v = true := by
    rw [q_and0]
    constructor
    · intro z v hv
      have z2 := z v hv
      rw [q_not (b_lt hv)] at z2
      cases q : bt (CL k a b E e) v
      · rw [q] at z2; exact (z2 rfl).elim
      · rfl
    · intro z v hv hn
      rw [q_not (b_lt hv), z v hv] at hn
      cases hn
  by_cases z : h &&& (CL k a b E e ^^^ (-1)) = 0
  · rw [if_pos z]
    by_cases y : h &&& O = 0
    · rw [if_pos y, bI_1 (fun v hv => ⟨h1.mp z v hv, fun x => q_and0.mp y v hv x⟩)]
    · rw [if_neg y, bI_0 (fun x => y (q_and0.mpr (fun i hi hi2 => (x i hi).2 hi2)))]
  · rw [if_neg z, bI_0 (fun x => z (h1.mpr (fun v hv => (x v hv).1)))]
/-- behind the interlocks: whether what is held stays safe -/
theorem y391 {w41 : Nat → Int32} (hG : GR n k a b) (h0 : fg 0 = nI n) (hf1 : fg 1 = nI k) (hT : FT k a b br ft) (hS : SD fd c e o) (hH : HS n k a b so lo c e o) (hA : ACT n k q w) (h1 : p5 / 100 = nI q) (h2 : p5 - p5 / 100 * 100 = nI w) (hN : 40 ≤ N) :
    ∃ m', fL_why_391 N p5 ft w41 fg fd hm = some (RSN True False False (SFE k a b (flC q c w) (flE q e w) (flO q o w) hm), m', fd) := by
  have hw := hA.w32 hG
  have hq := hA.1
  have ho := hH.o
  have hE : inN n (flE q e w) := by
    unfold flE
    split
    · exact x_in hH.2.2.2.1 (hA.2.2 (by omega)) hw
    · exact hH.2.2.2.1
  have hO : inN n (flO q o w) := by
    unfold flO
    split
    · exact x_in ho (hA.2.2 (by omega)) hw
    · exact ho
  obtain ⟨f0, f1, f2⟩ := fl_at (w := w) hS hq
  obtain ⟨m', e1, hm'⟩ := l_lay (N := N) (fm := w41) (C := flC q c w) hG h0 hf1 hT hN
  unfold fL_why_391
  rw [h2, h1, a_h q (by omega), gin_ok (by omega) (by omega), gin_ok (by omega) (by omega), nI_j (by omega), f0, e1, bd1_ok, f1, l_with hG h0 hm' hE hN, bd1_ok, f2, l_with hG h0 hm' hO hN]
  simp only [bd1_ok]
  rw [jn1_to (bI (SFE k a b (flC q c w) (flE q e w) (flO q o w) hm)) (fun gg => SFE_if), gin_ok (by omega) (by omega), upd_undo]
  by_cases z : SFE k a b (flC q c w) (flE q e w) (flO q o w) hm
  · rw [RSN_0 trivial (fun y => y) (fun y => y) z, bI_1 z, if_neg (by decide)]
    exact ⟨m', rfl⟩
  · rw [RSN_4 trivial (fun y => y) (fun y => y) z, bI_0 z, if_pos rfl]
    exact ⟨m', rfl⟩
theorem y278_0 {y11 y14 v22 v26 : Int32} {w21 : Nat → Int32} : fL_why_278 N p5 ft fg hm 0 y11 y14 w21 fd v22 v26 = fL_why_391 N p5 ft w21 fg fd hm := by
  unfold fL_why_278
  rw [jn2_to w21 fd (fun gg => if_pos rfl)]
  unfold fL_why_327
  rw [jn2_to w21 fd (fun gg => if_pos rfl)]
theorem RSN_B {B S : Prop} {x : Option (Int32 × (Nat → Int32) × (Nat → Int32))} {f : Nat → Int32} (h3 : B → ∃ m', x = some (3, m', f)) (h4 : ¬ B → ∃ m', x = some (RSN True False False S, m', f)) : ∃ m', x = some (RSN True False B S, m', f) := by
  by_cases z : B
  · rw [RSN_3 trivial (fun y => y) z]
    exact h3 z
  · rw [RSN_c Iff.rfl Iff.rfl (show B ↔ False from ⟨z, fun y => y.elim⟩) Iff.rfl]
    exact h4 z
/-- an act of a node -/
theorem y158_N (hG : GR n k a b) (h0 : fg 0 = nI n) (hf1 : fg 1 = nI k) (hf3 : fg 3 = lo) (hT : FT k a b br ft) (hS : SD fd c e o) (hH : HS n k a b so lo c e o) (hA : ACT n k q w) (hq2 : 2 ≤ q) (h1 : p5 / 100 = nI q) (h2 : p5 - p5 / 100 * 100 = nI w) (hN : 40 ≤ N) :
    ∃ m', fL_why_158 N ft fm fg fd p5 hm (nI w) (nI w) = some (RSN True False (BAR k a b br lo c e o (flC q c w) q w) (SFE k a b (flC q c w) (flE q e w) (flO q o w) hm), m', fd) := by
  have hw := hA.w32 hG
  have hq := hA.1
  obtain ⟨s0, s1, s2⟩ := id hS
  obtain ⟨m1, e1, hm1⟩ := l_lay (N := N) (fm := fm) (C := c) hG h0 hf1 hT hN
  obtain ⟨m', e9⟩ := y391 (N := N) (hm := hm) (w41 := m1) hG h0 hf1 hT hS hH hA h1 h2 hN
  have bb : ((1 : Int32) <<< (nI w &&& 31)) ||| ((1 : Int32) <<< (nI w &&& 31)) = (1 : Int32) <<< (nI w &&& 31) := b_ext (fun i _ => by rw [b_or, Bool.or_self])
  have bz : ∀ X : Int32, X &&& ((1 : Int32) <<< (nI w &&& 31)) = 0 ↔ ¬ bt X w = true := fun X => by
    rw [q_and0]
    constructor
    · exact fun z y => z w y ((q_bitT hw).mpr rfl)
    · intro z i hi hi2
      rw [(q_bitT hw).mp hi2] at hi
      exact z hi
  have hT257 : fL_why_257 N p5 ft fg hm (nI w) (nI w) m1 fd (CL k a b c o) (CL k a b c lo) = fL_why_391 N p5 ft m1 fg fd hm := by
    unfold fL_why_257
    rw [h2, h1, jn1_to 0 (fun gg => if_pos (show (2 : Int32) ≤ nI q from nI_le (a := 2) hq2 (by omega))), y278_0]
  unfold fL_why_158
  rw [s0, e1, bd1_ok, s2, l_with hG h0 hm1 hH.o hN, bd1_ok, s1, l_with hG h0 hm1 hH.2.2.2.1 hN, bd1_ok, hf3, l_with hG h0 hm1 hH.2.1 hN, bd1_ok, h1, hT257, bb]
  refine RSN_B (fun hB => ?_) (fun hB => ?_)
  · rcases (show q = 2 ∨ q = 3 ∨ q = 4 ∨ q = 5 by omega) with rfl | rfl | rfl | rfl
    · have hB : bt (CL k a b c o) w = true := by simpa [BAR] using hB
      rw [jn0_to (fun gg => if_neg (show ¬ nI 2 = 1 by decide)), jn0_out (fun gg => (if_pos (show nI 2 = 2 by decide)).trans (if_neg (fun z => (bz _).mp z hB)))]
      exact ⟨m1, rfl⟩
    · exact absurd hB (by simp [BAR])
    · have hB : bt (CL k a b c e) w = true := by simpa [BAR] using hB
      rw [jn0_to (fun gg => if_neg (show ¬ nI 4 = 1 by decide)), jn0_to (fun gg => if_neg (show ¬ nI 4 = 2 by decide)), jn0_out (fun gg => (if_pos (show nI 4 = 4 by decide)).trans (if_neg (fun z => (bz _).mp z hB)))]
      exact ⟨m1, rfl⟩
    · exact absurd hB (by simp [BAR])
  · refine ⟨m', ?_⟩
    rcases (show q = 2 ∨ q = 3 ∨ q = 4 ∨ q = 5 by omega) with rfl | rfl | rfl | rfl
    · have hB : ¬ bt (CL k a b c o) w = true := by simpa [BAR] using hB
      rw [jn0_to (fun gg => if_neg (show ¬ nI 2 = 1 by decide)), jn0_to (fun gg => (if_pos (show nI 2 = 2 by decide)).trans (if_pos ((bz _).mpr hB))), jn0_to (fun gg => if_neg (show ¬ nI 2 = 4 by decide)), e9]
    · rw [jn0_to (fun gg => if_neg (show ¬ nI 3 = 1 by decide)), jn0_to (fun gg => if_neg (show ¬ nI 3 = 2 by decide)), jn0_to (fun gg => if_neg (show ¬ nI 3 = 4 by decide)), e9]
    · have hB : ¬ bt (CL k a b c e) w = true := by simpa [BAR] using hB
      rw [jn0_to (fun gg => if_neg (show ¬ nI 4 = 1 by decide)), jn0_to (fun gg => if_neg (show ¬ nI 4 = 2 by decide)), jn0_to (fun gg => (if_pos (show nI 4 = 4 by decide)).trans (if_pos ((bz _).mpr hB))), e9]
    · rw [jn0_to (fun gg => if_neg (show ¬ nI 5 = 1 by decide)), jn0_to (fun gg => if_neg (show ¬ nI 5 = 2 by decide)), jn0_to (fun gg => if_neg (show ¬ nI 5 = 4 by decide)), e9]
/-- opening -/
theorem y158_0 (hG : GR n k a b) (h0 : fg 0 = nI n) (hf1 : fg 1 = nI k) (hf3 : fg 3 = lo) (hT : FT k a b br ft) (hS : SD fd c e o) (hH : HS n k a b so lo c e o) (hA : ACT n k 0 w) (h1 : p5 / 100 = nI 0) (h2 : p5 - p5 / 100 * 100 = nI w) (hN : 40 ≤ N) :
    ∃ m', fL_why_158 N ft fm fg fd p5 hm (nI (a w)) (nI (b w)) = some (RSN True False (BAR k a b br lo c e o (flC 0 c w) 0 w) (SFE k a b (flC 0 c w) (flE 0 e w) (flO 0 o w) hm), m', fd) := by
  have hw := hA.w32 hG
  have hwk := hA.2.1 (by omega)
  have hn := hG.1
  have hk := hG.2.1
  obtain ⟨ha, hb, hab⟩ := hG.2.2 w hwk
  obtain ⟨s0, s1, s2⟩ := id hS
  obtain ⟨m1, e1, hm1⟩ := l_lay (N := N) (fm := fm) (C := c) hG h0 hf1 hT hN
  obtain ⟨m2, e2, hm2⟩ := l_lay (N := N) (fm := m1) (C := c ^^^ ((1 : Int32) <<< (nI w &&& 31))) hG h0 hf1 hT hN
  obtain ⟨m', e9⟩ := y391 (N := N) (hm := hm) (w41 := m1) hG h0 hf1 hT hS hH hA h1 h2 hN
  obtain ⟨m3, e10⟩ := y391 (N := N) (hm := hm) (w41 := m2) hG h0 hf1 hT hS hH hA h1 h2 hN
  have e327 : ∀ m y, fL_why_327 N p5 ft fg hm y m fd (nI (a w)) (nI (b w)) = fL_why_391 N p5 ft m fg fd hm := fun m y => by
    unfold fL_why_327
    rw [h2, h1]
    by_cases z : y = 0
    · rw [jn2_to m fd (fun gg => if_pos z)]
    · rw [jn2_to m fd (fun gg => (if_neg z).trans (if_neg (show ¬ nI 0 = 1 by decide)))]
  have hbk := tw_bk (a w) (by omega) (b w) (by omega) (bt br w)
  unfold fL_why_158
  rw [s0, e1, bd1_ok, s2, l_with hG h0 hm1 hH.o hN, bd1_ok, s1, l_with hG h0 hm1 hH.2.2.2.1 hN, bd1_ok, hf3, l_with hG h0 hm1 hH.2.1 hN, bd1_ok, h1, jn0_to (fun gg => if_neg (show ¬ nI 0 = 1 by decide)), jn0_to (fun gg => if_neg (show ¬ nI 0 = 2 by decide)), jn0_to (fun gg => if_neg (show ¬ nI 0 = 4 by decide))]
  unfold fL_why_257
  rw [h2, h1]
  by_cases hbr : bt br w = true
  · rw [jn1_to 0 (fun gg => (if_neg (show ¬ (2 : Int32) ≤ nI 0 by decide)).trans ((gin_ok (show w < 24 by omega) (by omega) _).trans (by rw [nI_j (by omega), hT w hwk, if_pos (by rw [hbr] at hbk ⊢; exact of_decide_eq_true hbk)]))), y278_0]
    refine RSN_B (fun hB => absurd hbr (by simp [BAR] at hB; simp [hB.1])) (fun _ => ⟨m', e9⟩)
  · rw [jn1_to 1 (fun gg => (if_neg (show ¬ (2 : Int32) ≤ nI 0 by decide)).trans ((gin_ok (show w < 24 by omega) (by omega) _).trans (by rw [nI_j (by omega), hT w hwk, if_neg (by rw [bF.mp hbr] at hbk ⊢; exact of_decide_eq_false hbk)])))]
    have hBAR : BAR k a b br lo c e o (flC 0 c w) 0 w ↔ (LD k a b lo c o (a w) ∨ LD k a b lo c o (b w)) ∧ ¬ cn k a b (c ^^^ ((1 : Int32) <<< (nI w &&& 31))) (a w) (b w) := by
      simp [BAR, hbr, flC]
    unfold fL_why_278
    rw [h2, h1, s0, e2]
    have ee : ((1 : Int32) <<< (nI (a w) &&& 31)) ||| ((1 : Int32) <<< (nI (b w) &&& 31)) = edg a b w := rfl
    rw [ee]
    by_cases hl : LD k a b lo c o (a w) ∨ LD k a b lo c o (b w)
    · have g1 : ¬ (CL k a b c o &&& CL k a b c lo) &&& edg a b w = 0 := fun z => (ld_and hG hwk).mp z hl
      by_cases hc : cn k a b (c ^^^ ((1 : Int32) <<< (nI w &&& 31))) (a w) (b w)
      · rw [jn2_to m2 fd (fun gg => (if_neg (show ¬ (1 : Int32) = 0 by decide)).trans ((if_pos (show nI 0 = 0 from rfl)).trans ((if_neg g1).trans (by
          rw [bd1_ok, gin_ok (show a w < 16 by omega) (by omega), nI_j (by omega), hm2 (a w) ha, if_neg (fun z => by rw [q_t0 (by omega), (cl_bit hG ha).mpr hc] at z; cases z)])))), e327]
        exact RSN_B (fun hB => absurd hc (hBAR.mp hB).2) (fun _ => ⟨m3, e10⟩)
      · rw [jn2_out (fun gg => (if_neg (show ¬ (1 : Int32) = 0 by decide)).trans ((if_pos (show nI 0 = 0 from rfl)).trans ((if_neg g1).trans (by
          rw [bd1_ok, gin_ok (show a w < 16 by omega) (by omega), nI_j (by omega), hm2 (a w) ha, if_pos ((q_t0 (by omega)).mpr (bF.mp (fun z => hc ((cl_bit hG ha).mp z))))]))))]
        exact RSN_B (fun _ => ⟨m2, rfl⟩) (fun hB => absurd (hBAR.mpr ⟨hl, hc⟩) hB)
    · rw [jn2_to m1 fd (fun gg => (if_neg (show ¬ (1 : Int32) = 0 by decide)).trans ((if_pos (show nI 0 = 0 from rfl)).trans (if_pos ((ld_and hG hwk).mpr hl)))), e327]
      exact RSN_B (fun hB => absurd (hBAR.mp hB).1 hl) (fun _ => ⟨m', e9⟩)
/-- closing -/
theorem y158_1 (hG : GR n k a b) (h0 : fg 0 = nI n) (hf1 : fg 1 = nI k) (hf3 : fg 3 = lo) (hT : FT k a b br ft) (hS : SD fd c e o) (hH : HS n k a b so lo c e o) (hA : ACT n k 1 w) (hR : ¬ bt c w = true) (h1 : p5 / 100 = nI 1) (h2 : p5 - p5 / 100 * 100 = nI w) (hN : 40 ≤ N) :
    ∃ m', fL_why_158 N ft fm fg fd p5 hm (nI (a w)) (nI (b w)) = some (RSN True False (BAR k a b br lo c e o (flC 1 c w) 1 w) (SFE k a b (flC 1 c w) (flE 1 e w) (flO 1 o w) hm), m', fd) := by
  have hw := hA.w32 hG
  have hwk := hA.2.1 (by omega)
  have hn := hG.1
  have hk := hG.2.1
  obtain ⟨ha, hb, hab⟩ := hG.2.2 w hwk
  obtain ⟨s0, s1, s2⟩ := id hS
  obtain ⟨m1, e1, hm1⟩ := l_lay (N := N) (fm := fm) (C := c) hG h0 hf1 hT hN
  obtain ⟨m2, e2, hm2⟩ := l_lay (N := N) (fm := m1) (C := flC 1 c w) hG h0 hf1 hT hN
  obtain ⟨m', e9⟩ := y391 (N := N) (hm := hm) (w41 := m1) hG h0 hf1 hT hS hH hA h1 h2 hN
  obtain ⟨m3, e10⟩ := y391 (N := N) (hm := hm) (w41 := m2) hG h0 hf1 hT hS hH hA h1 h2 hN
  have hcc : c ||| ((1 : Int32) <<< (nI w &&& 31)) = flC 1 c w := sett hw hR
  have ee : ((1 : Int32) <<< (nI (a w) &&& 31)) ||| ((1 : Int32) <<< (nI (b w) &&& 31)) = edg a b w := rfl
  have hbk := tw_bk (a w) (by omega) (b w) (by omega) (bt br w)
  have hdis := hH.2.2.2.2.2
  have hB1 : (¬ CL k a b c o &&& edg a b w = 0 ∧ ¬ CL k a b c e &&& edg a b w = 0) ↔ (bt (CL k a b c o) (a w) = true ∧ bt (CL k a b c e) (b w) = true) ∨ (bt (CL k a b c o) (b w) = true ∧ bt (CL k a b c e) (a w) = true) := by
    rw [ends_and hG hwk, ends_and hG hwk, Classical.not_not, Classical.not_not]
    constructor
    · rintro ⟨x | x, y | y⟩
      · exact (hdis _ ⟨x, y⟩).elim
      · exact Or.inl ⟨x, y⟩
      · exact Or.inr ⟨x, y⟩
      · exact (hdis _ ⟨x, y⟩).elim
    · rintro (⟨x, y⟩ | ⟨x, y⟩)
      · exact ⟨Or.inl x, Or.inr y⟩
      · exact ⟨Or.inr x, Or.inl y⟩
  have hBAR : BAR k a b br lo c e o (flC 1 c w) 1 w ↔ (¬ CL k a b c o &&& edg a b w = 0 ∧ ¬ CL k a b c e &&& edg a b w = 0) ∨ (¬ bt br w = true ∧ ¬ cn k a b c (a w) (b w) ∧ (LD k a b lo (flC 1 c w) o (a w) ∨ LD k a b lo (flC 1 c w) o (b w))) := by
    rw [hB1]
    simp only [BAR]
    rw [if_neg (by decide), if_pos trivial]
    constructor
    · rintro (x | x | ⟨x, y⟩)
      · exact Or.inl (Or.inl x)
      · exact Or.inl (Or.inr x)
      · refine Or.inr ⟨x, fun z => y (Or.inl z), ?_⟩
        exact Classical.byContradiction (fun z => y (Or.inr ⟨fun v => z (Or.inl v), fun v => z (Or.inr v)⟩))
    · rintro ((x | x) | ⟨x, y, z⟩)
      · exact Or.inl x
      · exact Or.inr (Or.inl x)
      · exact Or.inr (Or.inr ⟨x, fun v => v.elim y (fun v => z.elim v.1 v.2)⟩)
  unfold fL_why_158
  rw [s0, e1, bd1_ok, s2, l_with hG h0 hm1 hH.o hN, bd1_ok, s1, l_with hG h0 hm1 hH.2.2.2.1 hN, bd1_ok, hf3, l_with hG h0 hm1 hH.2.1 hN, bd1_ok, h1, ee]
  by_cases x1 : ¬ CL k a b c o &&& edg a b w = 0 ∧ ¬ CL k a b c e &&& edg a b w = 0
  · rw [jn0_out (fun gg => (if_pos (show nI 1 = 1 from rfl)).trans ((if_neg x1.1).trans (if_neg x1.2)))]
    exact RSN_B (fun _ => ⟨m1, rfl⟩) (fun hB => absurd (hBAR.mpr (Or.inl x1)) hB)
  · have t1 : ∀ (gg : Option (Int32 × (Nat → Int32) × (Nat → Int32))), (if nI 1 = 1 then (if CL k a b c o &&& edg a b w = 0 then gg else (if CL k a b c e &&& edg a b w = 0 then gg else some (3, m1, fd))) else gg) = gg := fun gg => by
      rw [if_pos (show nI 1 = 1 from rfl)]
      by_cases y : CL k a b c o &&& edg a b w = 0
      · rw [if_pos y]
      · rw [if_neg y, if_pos (Classical.byContradiction (fun z => x1 ⟨y, z⟩))]
    rw [jn0_to t1, jn0_to (fun gg => if_neg (show ¬ nI 1 = 2 by decide)), jn0_to (fun gg => if_neg (show ¬ nI 1 = 4 by decide))]
    unfold fL_why_257
    rw [h2, h1]
    by_cases hbr : bt br w = true
    · rw [jn1_to 0 (fun gg => (if_neg (show ¬ (2 : Int32) ≤ nI 1 by decide)).trans ((gin_ok (show w < 24 by omega) (by omega) _).trans (by rw [nI_j (by omega), hT w hwk, if_pos (by rw [hbr] at hbk ⊢; exact of_decide_eq_true hbk)]))), y278_0]
      exact RSN_B (fun hB => (hBAR.mp hB).elim (fun z => absurd z x1) (fun z => absurd hbr z.1)) (fun _ => ⟨m', e9⟩)
    · rw [jn1_to 1 (fun gg => (if_neg (show ¬ (2 : Int32) ≤ nI 1 by decide)).trans ((gin_ok (show w < 24 by omega) (by omega) _).trans (by rw [nI_j (by omega), hT w hwk, if_neg (by rw [bF.mp hbr] at hbk ⊢; exact of_decide_eq_false hbk)])))]
      unfold fL_why_278
      rw [h2, h1, jn2_to m1 fd (fun gg => (if_neg (show ¬ (1 : Int32) = 0 by decide)).trans (if_neg (show ¬ nI 1 = 0 by decide)))]
      unfold fL_why_327
      rw [h2, h1, s0, hcc, e2, hf3, s2, ee]
      by_cases hc : cn k a b c (a w) (b w)
      · rw [jn2_to m1 fd (fun gg => (if_neg (show ¬ (1 : Int32) = 0 by decide)).trans ((if_pos (show nI 1 = 1 from rfl)).trans (by
          rw [gin_ok (show a w < 16 by omega) (by omega), nI_j (by omega), hm1 (a w) ha, if_neg (fun z => by rw [q_t0 (by omega), (cl_bit hG ha).mpr hc] at z; cases z)])))]
        exact RSN_B (fun hB => (hBAR.mp hB).elim (fun z => absurd z x1) (fun z => absurd hc z.2.1)) (fun _ => ⟨m', e9⟩)
      · have b3 : ∀ (gg : (Nat → Int32) → (Nat → Int32) → Option (Int32 × (Nat → Int32) × (Nat → Int32))), (if (1 : Int32) = 0 then gg m1 fd else (if nI 1 = 1 then gin (nI (a w)) 16 ((if (((m1 (nI (a w)).toNatClampNeg) >>> (nI (b w) &&& 31)) &&& 1) = 0 then bd1 (some m2) (fun w65 => bd1 (fL_with N w65 fg o) (fun v66 => bd1 (fL_with N w65 fg lo) (fun v68 => (if ((v66 &&& v68) &&& edg a b w) = 0 then gg w65 fd else some (3, w65, fd))))) else gg m1 fd)) else gg m1 fd)) = (if (CL k a b (flC 1 c w) o &&& CL k a b (flC 1 c w) lo) &&& edg a b w = 0 then gg m2 fd else some (3, m2, fd)) := fun gg => by
          rw [if_neg (show ¬ (1 : Int32) = 0 by decide), if_pos (show nI 1 = 1 from rfl), gin_ok (show a w < 16 by omega) (by omega), nI_j (by omega), hm1 (a w) ha, if_pos ((q_t0 (by omega)).mpr (bF.mp (fun z => hc ((cl_bit hG ha).mp z)))), bd1_ok, l_with hG h0 hm2 hH.o hN, bd1_ok, l_with hG h0 hm2 hH.2.1 hN, bd1_ok]
        by_cases hl : LD k a b lo (flC 1 c w) o (a w) ∨ LD k a b lo (flC 1 c w) o (b w)
        · rw [jn2_out (fun gg => (b3 gg).trans (if_neg (fun z => (ld_and hG hwk).mp z hl)))]
          exact RSN_B (fun _ => ⟨m2, rfl⟩) (fun hB => absurd (hBAR.mpr (Or.inr ⟨hbr, hc, hl⟩)) hB)
        · rw [jn2_to m2 fd (fun gg => (b3 gg).trans (if_pos ((ld_and hG hwk).mpr hl)))]
          exact RSN_B (fun hB => (hBAR.mp hB).elim (fun z => absurd z x1) (fun z => absurd z.2.2 hl)) (fun _ => ⟨m3, e10⟩)
theorem RDY_i (hS : SD fd c e o) (hq : q ≤ 5) : RDY so c e o q w ↔ ¬ (bt (fd (q / 2)) w = true ↔ (q = 1 ∨ q = 2 ∨ q = 4)) ∧ (3 < q → bt so w = true) := by
  obtain ⟨s0, s1, s2⟩ := hS
  rcases six hq with rfl | rfl | rfl | rfl | rfl | rfl <;> simp [RDY, s0, s1, s2, and_comm]
/-- the law's why -/
theorem l_why (hG : GR n k a b) (hF : FG n k so lo d r g fg) (hT : FT k a b br ft) (hS : SD fd c e o) (hH : HS n k a b so lo c e o) (hA : ACT n k q w) (hg : g ≤ 10) (hh : ∀ p, p < g → fh p = hol p) (hN : 40 ≤ N) :
    ∃ m', fL_why N ft fm fh fg fd (nI (100 * q + w)) = some (VAL k a b br so lo c e o (orF hol g) q w, m', fd) := by
  have hw := hA.w32 hG
  have hq := hA.1
  have hn := hG.1
  have hk := hG.2.1
  obtain ⟨h0, hf1, hf2, hf3, hf4, hf5, h6⟩ := id hF
  have h1 := a_q q (by omega) w hw
  have h2 := a_w q (by omega) w hw
  generalize nI (100 * q + w) = p5 at h1 h2 ⊢
  have e1 : ∀ gg : Int32 → Option (Int32 × (Nat → Int32) × (Nat → Int32)), (if ((fd (q / 2) >>> (nI w &&& 31)) &&& 1) = 1 then gg 1 else gg 0) = gg (bI (bt (fd (q / 2)) w = true)) := fun gg => by
    by_cases z : bt (fd (q / 2)) w = true
    · rw [if_pos ((q_t1 hw).mpr z), bI_1 z]
    · rw [if_neg (fun y => z ((q_t1 hw).mp y)), bI_0 z]
  have e2 : ∀ gg : Int32 → Option (Int32 × (Nat → Int32) × (Nat → Int32)), (if nI q = 1 then gg 1 else (if nI q = 2 then gg 1 else (if nI q = 4 then gg 1 else gg 0))) = gg (bI (q = 1 ∨ q = 2 ∨ q = 4)) := fun gg => by
    rcases six hq with rfl | rfl | rfl | rfl | rfl | rfl
    · rw [if_neg (by decide), if_neg (by decide), if_neg (by decide), bI_0 (by decide)]
    · rw [if_pos (by decide), bI_1 (by decide)]
    · rw [if_neg (by decide), if_pos (by decide), bI_1 (by decide)]
    · rw [if_neg (by decide), if_neg (by decide), if_neg (by decide), bI_0 (by decide)]
    · rw [if_neg (by decide), if_neg (by decide), if_pos (by decide), bI_1 (by decide)]
    · rw [if_neg (by decide), if_neg (by decide), if_neg (by decide), bI_0 (by decide)]
  have c3 : nI q ≤ 3 ↔ q ≤ 3 := nI_leI (b := 3) (by omega) (by omega)
  unfold fL_why
  rw [h2, h1, a_h q (by omega), gin_ok (by omega) (by omega), nI_j (by omega), jn1_to _ e1, jn1_to _ e2, hf2]
  by_cases hR : RDY so c e o q w
  · obtain ⟨r1, r2⟩ := (RDY_i hS hq).mp hR
    have t3 : ∀ gg : Option (Int32 × (Nat → Int32) × (Nat → Int32)), (if nI q ≤ 3 then gg else (if ((so >>> (nI w &&& 31)) &&& 1) = 0 then some (1, fm, fd) else gg)) = gg := fun gg => by
      by_cases z : q ≤ 3
      · rw [if_pos (c3.mpr z)]
      · rw [if_neg (fun y => z (c3.mp y)), if_neg (fun y => by rw [q_t0 hw, r2 (by omega)] at y; cases y)]
    rw [if_neg (fun z => r1 (bI_e.mp z)), jn0_to t3]
    unfold fL_why_88
    rw [h2, h1]
    have hfin : ∀ yy1 yy2 : Int32, ((1 : Int32) <<< (yy1 &&& 31)) ||| ((1 : Int32) <<< (yy2 &&& 31)) = tch a b q w → (∃ m', fL_why_158 N ft fm fg fd p5 (orF hol g) yy1 yy2 = some (RSN True False (BAR k a b br lo c e o (flC q c w) q w) (SFE k a b (flC q c w) (flE q e w) (flO q o w) (orF hol g)), m', fd)) →
        ∃ m', bd1 (fL_held N fh fg) (fun v17 => (if ((((1 : Int32) <<< (yy1 &&& 31)) ||| ((1 : Int32) <<< (yy2 &&& 31))) &&& v17) = 0 then fL_why_158 N ft fm fg fd p5 v17 yy1 yy2 else some (2, fm, fd))) = some (VAL k a b br so lo c e o (orF hol g) q w, m', fd) := fun yy1 yy2 ht ⟨m', em⟩ => by
      rw [l_held h6 hg hh hN, bd1_ok, ht]
      unfold VAL
      by_cases z : tch a b q w &&& orF hol g = 0
      · rw [if_pos z, em]
        exact ⟨m', by rw [RSN_c (show RDY so c e o q w ↔ True from ⟨fun _ => trivial, fun _ => hR⟩) (show ¬ tch a b q w &&& orF hol g = 0 ↔ False from ⟨fun y => y z, fun y => y.elim⟩) Iff.rfl Iff.rfl]⟩
      · rw [if_neg z, RSN_2 hR z]
        exact ⟨fm, rfl⟩
    rcases Nat.lt_or_ge q 2 with hq2 | hq2
    · have hwk := hA.2.1 hq2
      obtain ⟨ha, hb, -⟩ := hG.2.2 w hwk
      have n2 : ¬ (2 : Int32) ≤ nI q := nI_gt (i := q) (n := 2) hq2 (by omega)
      rw [jn1_to (nI (a w)) (fun gg => (if_neg n2).trans ((gin_ok (show w < 24 by omega) (by omega) _).trans (by rw [nI_j (by omega), hT w hwk, tw_lo (a w) (by omega) (b w) (by omega)]))),
        jn1_to (nI (b w)) (fun gg => (if_neg n2).trans ((gin_ok (show w < 24 by omega) (by omega) _).trans (by rw [nI_j (by omega), hT w hwk, tw_hi (a w) (by omega) (b w) (by omega)])))]
      refine hfin _ _ (by unfold tch; rw [if_pos hq2]; rfl) ?_
      rcases (show q = 0 ∨ q = 1 by omega) with rfl | rfl
      · exact y158_0 hG h0 hf1 hf3 hT hS hH hA h1 h2 hN
      · exact y158_1 hG h0 hf1 hf3 hT hS hH hA (by simpa [RDY] using hR) h1 h2 hN
    · have n2 : (2 : Int32) ≤ nI q := nI_le (a := 2) hq2 (by omega)
      rw [jn1_to (nI w) (fun gg => if_pos n2), jn1_to (nI w) (fun gg => if_pos n2)]
      refine hfin _ _ ?_ (y158_N hG h0 hf1 hf3 hT hS hH hA hq2 h1 h2 hN)
      unfold tch
      rw [if_neg (by omega)]
      exact b_ext (fun i _ => by rw [b_or, Bool.or_self])
  · unfold VAL
    rw [RSN_1 hR]
    by_cases z : bt (fd (q / 2)) w = true ↔ (q = 1 ∨ q = 2 ∨ q = 4)
    · rw [if_pos (bI_e.mpr z)]
      exact ⟨fm, rfl⟩
    · have hq3 : 3 < q ∧ ¬ bt so w = true := Classical.byContradiction (fun y => hR ((RDY_i hS hq).mpr ⟨z, fun x => Classical.byContradiction (fun v => y ⟨x, v⟩)⟩))
      rw [if_neg (fun y => z (bI_e.mp y)), jn0_out (fun gg => (if_neg (fun y => by have := c3.mp y; omega)).trans (if_pos ((q_t0 hw).mpr (bF.mp hq3.2))))]
      exact ⟨fm, rfl⟩
end WHY
