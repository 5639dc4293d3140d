noncomputable def RSN (P Q R S : Prop) : Int32 := @ite Int32 P (Classical.propDecidable P) (@ite Int32 Q (Classical.propDecidable Q) 2 (@ite Int32 R (Classical.propDecidable R) 3 (@ite Int32 S (Classical.propDecidable S) 0 4))) 1
theorem RSN_1 {P Q R S : Prop} (h : ¬ P) : RSN P Q R S = 1 := by unfold RSN; rw [if_neg h]
theorem RSN_2 {P Q R S : Prop} (h : P) (h2 : Q) : RSN P Q R S = 2 := by unfold RSN; rw [if_pos h, if_pos h2]
theorem RSN_3 {P Q R S : Prop} (h : P) (h2 : ¬ Q) (h3 : R) : RSN P Q R S = 3 := by unfold RSN; rw [if_pos h, if_neg h2, if_pos h3]
theorem RSN_0 {P Q R S : Prop} (h : P) (h2 : ¬ Q) (h3 : ¬ R) (h4 : S) : RSN P Q R S = 0 := by unfold RSN; rw [if_pos h, if_neg h2, if_neg h3, if_pos h4]
theorem RSN_4 {P Q R S : Prop} (h : P) (h2 : ¬ Q) (h3 : ¬ R) (h4 : ¬ S) : RSN P Q R S = 4 := by unfold RSN; rw [if_pos h, if_neg h2, if_neg h3, if_neg h4]
theorem RSN_z {P Q R S : Prop} (h : RSN P Q R S = 0) : P ∧ ¬ Q ∧ ¬ R ∧ S := by
  by_cases p : P
  · by_cases q : Q
    · rw [RSN_2 p q] at h; simp at h
    · by_cases r : R
      · rw [RSN_3 p q r] at h; simp at h
      · by_cases s : S
        · exact ⟨p, q, r, s⟩
        · rw [RSN_4 p q r s] at h; simp at h
  · rw [RSN_1 p] at h; simp at h
/-- the reason of an act (hm: what is held) -/
noncomputable def VAL (k : Nat) (a b : Nat → Nat) (br so lo c e o hm : Int32) (q w : Nat) : Int32 :=
  RSN (RDY so c e o q w) (¬ tch a b q w &&& hm = 0) (BAR k a b br lo c e o (flC q c w) q w) (SFE k a b (flC q c w) (flE q e w) (flO q o w) hm)
/-- an act that there is -/
def ACT (n k q w : Nat) : Prop := q ≤ 5 ∧ (q < 2 → w < k) ∧ (2 ≤ q → w < n)
theorem ACT.w32 {n k q w : Nat} {a b : Nat → Nat} (hG : GR n k a b) (h : ACT n k q w) : w < 32 := by
  have h1 := hG.1
  have h2 := hG.2.1
  rcases Nat.lt_or_ge q 2 with z | z
  · have := h.2.1 z; omega
  · have := h.2.2 z; omega
theorem x_in {n w : Nat} {x : Int32} (hx : inN n x) (hw : w < n) (hw2 : w < 32) : inN n (x ^^^ ((1 : Int32) <<< (nI w &&& 31))) := fun v hv => by
  rw [b_xor, q_bit hw2] at hv
  by_cases e : v = w
  · rw [e]; exact hw
  · simp [e] at hv
    exact hx v hv
/-- the state: sources o among so, all within the nodes and switches, none live and earthed -/
def HS (n k : Nat) (a b : Nat → Nat) (so lo c e o : Int32) : Prop := inN n so ∧ inN n lo ∧ inN k c ∧ inN n e ∧ (∀ v, bt o v = true → bt so v = true) ∧ ∀ v, ¬ (bt (CL k a b c o) v = true ∧ bt (CL k a b c e) v = true)
theorem HS.o {n k : Nat} {a b : Nat → Nat} {so lo c e o : Int32} (h : HS n k a b so lo c e o) : inN n o := fun v hv => h.1 v (h.2.2.2.2.1 v hv)
section VALS
variable {n k : Nat} {a b : Nat → Nat} {ends one oth isb : Nat → Int32} {br so lo c e o : Int32} {N q w g : Nat} {hol mho mih : Nat → Int32}
theorem c_reason {ac ae ao : Int32} (hG : GR n k a b) (he : ∀ s, s < k → ends s = edg a b s) (hH : HS n k a b so lo c e o) (hA : ACT n k q w) (hg : g ≤ 10) (hN : 40 ≤ N) :
    ∃ x y z, fX4_reasonIn N (nI n) (nI k) br so lo ends (nI g) hol c e o ac ae ao (nI q) (nI w) = some (VAL k a b br so lo c e o (orF hol g) q w, x, y, z) := by
  obtain ⟨h1, h2, h3, h4, h5, h6⟩ := id hH
  have hw := hA.w32 hG
  have ho := hH.o
  have hE : inN n (flE q e w) := by
    unfold flE
    split
    · exact x_in h4 (hA.2.2 (by omega)) hw
    · exact h4
  have hO : inN n (flO q o w) := by
    unfold flO
    split
    · exact x_in ho (hA.2.2 (by omega)) hw
    · exact ho
  unfold fX4_reasonIn fX3_copyFrom VAL
  rw [c_ready hA.1 hw h5, bd1_ok, c_touch hG he hA.1 hA.2.1, bd1_ok, c_held hg hN, bd1_ok, bd3_ok, c_flip hA.1, bd3_ok, c_inter hG he ho h2 h4 hA.1 hA.2.1 hw hN h6 (fun z => by unfold flO; rw [if_neg (by omega)]), bd1_ok, bd1_ok, c_safe hG he hE hO hN, bd1_ok]
  by_cases r1 : RDY so c e o q w
  · rw [if_pos (bI_z.mpr (fun z => z r1))]
    by_cases r2 : tch a b q w &&& orF hol g = 0
    · rw [if_pos r2]
      by_cases r3 : BAR k a b br lo c e o (flC q c w) q w
      · rw [if_neg (fun z => bI_z.mp z r3), RSN_3 r1 (fun z => z r2) r3]
        exact ⟨_, _, _, rfl⟩
      · rw [if_pos (bI_z.mpr r3)]
        by_cases r4 : SFE k a b (flC q c w) (flE q e w) (flO q o w) (orF hol g)
        · rw [if_neg (fun z => bI_z.mp z r4), RSN_0 r1 (fun z => z r2) r3 r4]
          exact ⟨_, _, _, rfl⟩
        · rw [if_pos (bI_z.mpr r4), RSN_4 r1 (fun z => z r2) r3 r4]
          exact ⟨_, _, _, rfl⟩
    · rw [if_neg r2, RSN_2 r1 r2]
      exact ⟨_, _, _, rfl⟩
  · rw [if_neg (fun z => bI_z.mp z r1), RSN_1 r1]
    exact ⟨_, _, _, rfl⟩
/-! an act that is allowed keeps the state's facts -/
theorem cn_mono {c c2 : Int32} (h : ∀ s, bt c2 s = true → bt c s = true) {u v : Nat} (hc : cn k a b c2 u v) : cn k a b c u v := fun P hP => hc P (fun s hs hb => hP s hs (h s hb))
theorem cn_add {c c2 : Int32} (hw : w < k) (h : ∀ s, bt c2 s = true → bt c s = true ∨ s = w) {u v : Nat} (hc : cn k a b c2 u v) : cn k a b c u v ∨ (cn k a b c u (a w) ∧ cn k a b c (b w) v) ∨ (cn k a b c u (b w) ∧ cn k a b c (a w) v) := by
  have key := hc (fun y => cn k a b c u y ∨ (cn k a b c u (a w) ∧ cn k a b c (b w) y) ∨ (cn k a b c u (b w) ∧ cn k a b c (a w) y)) (fun s hs hb => by
    rcases h s hb with z | z
    · have e := cn.ed (a := a) (b := b) hs z
      constructor
      · rintro (x | ⟨x, y⟩ | ⟨x, y⟩)
        · exact Or.inl (x.tr e)
        · exact Or.inr (Or.inl ⟨x, y.tr e⟩)
        · exact Or.inr (Or.inr ⟨x, y.tr e⟩)
      · rintro (x | ⟨x, y⟩ | ⟨x, y⟩)
        · exact Or.inl (x.tr e.sm)
        · exact Or.inr (Or.inl ⟨x, y.tr e.sm⟩)
        · exact Or.inr (Or.inr ⟨x, y.tr e.sm⟩)
    · subst z
      constructor
      · rintro (x | ⟨x, y⟩ | ⟨x, y⟩)
        · exact Or.inr (Or.inl ⟨x, cn.rf⟩)
        · exact Or.inr (Or.inl ⟨x, cn.rf⟩)
        · exact Or.inl x
      · rintro (x | ⟨x, y⟩ | ⟨x, y⟩)
        · exact Or.inr (Or.inr ⟨x, cn.rf⟩)
        · exact Or.inl x
        · exact Or.inr (Or.inr ⟨x, cn.rf⟩))
  exact key.mp (Or.inl cn.rf)
theorem xb {x : Int32} {v : Nat} (hw : w < 32) : bt (x ^^^ ((1 : Int32) <<< (nI w &&& 31))) v = true ↔ ((bt x v = true ∧ v ≠ w) ∨ (¬ bt x v = true ∧ v = w)) := by
  rw [b_xor, q_bit hw]
  by_cases e : v = w
  · subst e; cases bt x v <;> simp
  · simp [e]
theorem HS_go {hm : Int32} (hG : GR n k a b) (hH : HS n k a b so lo c e o) (hA : ACT n k q w) (hv : VAL k a b br so lo c e o hm q w = 0) : HS n k a b so lo (flC q c w) (flE q e w) (flO q o w) := by
  obtain ⟨i1, i2, i3, i4, i5, i6⟩ := id hH
  obtain ⟨r1, -, r3, -⟩ := RSN_z hv
  have hw := hA.w32 hG
  have ho := hH.o
  have hk := hG.2.1
  have noLE : ∀ u u2 x, bt o u = true → bt e u2 = true → cn k a b c u x → cn k a b c u2 x → False := fun u u2 x h1 h2 h3 h4 => i6 x ⟨(CL_bt hG ho).mpr ⟨u, h1, h3⟩, (CL_bt hG i4).mpr ⟨u2, h2, h4⟩⟩
  refine ⟨i1, i2, ?_, ?_, ?_, ?_⟩
  · unfold flC
    split
    · exact x_in i3 (hA.2.1 (by omega)) hw
    · exact i3
  · unfold flE
    split
    · exact x_in i4 (hA.2.2 (by omega)) hw
    · exact i4
  · intro v hv
    rcases six hA.1 with rfl | rfl | rfl | rfl | rfl | rfl <;> simp [flO] at hv
    · exact i5 v hv
    · exact i5 v hv
    · exact i5 v hv
    · exact i5 v hv
    · rcases (xb hw).mp hv with z | z
      · exact i5 v z.1
      · simp [RDY] at r1
        rw [z.2]; exact r1.1
    · rcases (xb hw).mp hv with z | z
      · exact i5 v z.1
      · simp [RDY] at r1
        exact (z.1 (by rw [z.2]; exact r1.2)).elim
  · have hE : inN n (flE q e w) := by
      unfold flE
      split
      · exact x_in i4 (hA.2.2 (by omega)) hw
      · exact i4
    have hO : inN n (flO q o w) := by
      unfold flO
      split
      · exact x_in ho (hA.2.2 (by omega)) hw
      · exact ho
    rintro v ⟨y1, y2⟩
    obtain ⟨u, hu, hc⟩ := (CL_bt hG hO).mp y1
    obtain ⟨u2, hu2, hc2⟩ := (CL_bt hG hE).mp y2
    rcases six hA.1 with rfl | rfl | rfl | rfl | rfl | rfl <;> simp [flC, flE, flO] at hc hc2 hu hu2
    · have m : ∀ s, bt (c ^^^ ((1 : Int32) <<< (nI w &&& 31))) s = true → bt c s = true := fun s hs => by
        rcases (xb hw).mp hs with z | z
        · exact z.1
        · simp [RDY] at r1
          exact (z.1 (by rw [z.2]; exact r1)).elim
      exact noLE u u2 v hu hu2 (cn_mono m hc) (cn_mono m hc2)
    · have hwk := hA.2.1 (by omega)
      have m : ∀ s, bt (c ^^^ ((1 : Int32) <<< (nI w &&& 31))) s = true → bt c s = true ∨ s = w := fun s hs => by
        rcases (xb hw).mp hs with z | z
        · exact Or.inl z.1
        · exact Or.inr z.2
      simp only [BAR] at r3
      rw [if_neg (by decide), if_pos trivial] at r3
      rcases cn_add hwk m (hc.tr hc2.sm) with z | ⟨z1, z2⟩ | ⟨z1, z2⟩
      · exact noLE u u2 u2 hu hu2 z cn.rf
      · exact r3 (Or.inl ⟨(CL_bt hG ho).mpr ⟨u, hu, z1⟩, (CL_bt hG i4).mpr ⟨u2, hu2, z2.sm⟩⟩)
      · exact r3 (Or.inr (Or.inl ⟨(CL_bt hG ho).mpr ⟨u, hu, z1⟩, (CL_bt hG i4).mpr ⟨u2, hu2, z2.sm⟩⟩))
    · simp [BAR] at r3
      rcases (xb hw).mp hu2 with z | z
      · exact noLE u u2 v hu z.1 hc hc2
      · have h9 := (CL_bt (S := o) (c := c) (v := w) hG ho).mpr ⟨u, hu, hc.tr (by rw [← z.2]; exact hc2.sm)⟩
        rw [r3] at h9
        cases h9
    · rcases (xb hw).mp hu2 with z | z
      · exact noLE u u2 v hu z.1 hc hc2
      · simp [RDY] at r1
        exact (z.1 (by rw [z.2]; exact r1)).elim
    · simp [BAR] at r3
      rcases (xb hw).mp hu with z | z
      · exact noLE u u2 v z.1 hu2 hc hc2
      · have h9 := (CL_bt (S := e) (c := c) (v := w) hG i4).mpr ⟨u2, hu2, hc2.tr (by rw [← z.2]; exact hc.sm)⟩
        rw [r3] at h9
        cases h9
    · rcases (xb hw).mp hu with z | z
      · exact noLE u u2 v z.1 hu2 hc hc2
      · simp [RDY] at r1
        exact (z.1 (by rw [z.2]; exact r1.2)).elim
end VALS

