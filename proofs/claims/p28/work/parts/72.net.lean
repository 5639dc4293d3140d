/-! truth values as numbers -/
noncomputable def bI (P : Prop) : Int32 := @ite Int32 P (Classical.propDecidable P) 1 0
theorem bI_1 {P : Prop} (h : P) : bI P = 1 := by unfold bI; rw [if_pos h]
theorem bI_0 {P : Prop} (h : ¬ P) : bI P = 0 := by unfold bI; rw [if_neg h]
theorem bI_c {P Q : Prop} (h : P ↔ Q) : bI P = bI Q := by
  by_cases q : P
  · rw [bI_1 q, bI_1 (h.mp q)]
  · rw [bI_0 q, bI_0 (fun z => q (h.mpr z))]
theorem bI_z {P : Prop} : bI P = 0 ↔ ¬ P := by
  by_cases q : P
  · rw [bI_1 q]; simp [q]
  · rw [bI_0 q]; simp [q]
theorem bI_o {P : Prop} : bI P = 1 ↔ P := by
  by_cases q : P
  · rw [bI_1 q]; simp [q]
  · rw [bI_0 q]; simp [q]
theorem bI_bz {P : Prop} : bz (bI P) = true := by
  by_cases q : P
  · rw [bI_1 q]; rfl
  · rw [bI_0 q]; rfl
theorem ite_01 {c P : Prop} [Decidable c] (h : c ↔ ¬ P) : (if c then (some 0 : Option Int32) else some 1) = some (bI P) := by
  by_cases q : P
  · rw [bI_1 q, if_neg (fun z => h.mp z q)]
  · rw [bI_0 q, if_pos (h.mpr q)]
theorem ite_10 {c P : Prop} [Decidable c] (h : c ↔ P) : (if c then (some 1 : Option Int32) else some 0) = some (bI P) := by
  by_cases q : P
  · rw [bI_1 q, if_pos (h.mpr q)]
  · rw [bI_0 q, if_neg (fun z => q (h.mp z))]
theorem bF {x : Int32} {v : Nat} : ¬ bt x v = true ↔ bt x v = false := by cases bt x v <;> simp
/-- the switches and the nodes, as both sides hold them -/
def HC (n k : Nat) (a b : Nat → Nat) (ends one oth isb : Nat → Int32) (br : Int32) : Prop := GR n k a b ∧ (∀ s, s < k → ends s = edg a b s) ∧ (∀ s, s < k → one s = nI (a s)) ∧ (∀ s, s < k → oth s = nI (b s)) ∧ (∀ s, s < k → (isb s = 0 ↔ ¬ bt br s = true))
section NET
variable {n k : Nat} {a b : Nat → Nat} {ends one oth isb : Nat → Int32} {br so lo c e o N' : Int32} {N : Nat}
/-- who is live (o the sources that are on), earthed (o the earths) -/
theorem lv_sym {p : Nat} (hG : GR n k a b) (ho : inN n o) (hp : p < n) : CL k a b c ((1 : Int32) <<< (nI p &&& 31)) &&& o = 0 ↔ ¬ bt (CL k a b c o) p = true := by
  have hn := hG.1
  rw [q_and0, CL_bt hG ho]
  constructor
  · intro h ⟨u, h1, h2⟩
    exact h u ((CL_bt hG (q_bitN hn hp)).mpr ⟨p, (q_bitT (by omega)).mpr rfl, h2.sm⟩) h1
  · intro h i h1 h2
    obtain ⟨u, h3, h4⟩ := (CL_bt hG (q_bitN hn hp)).mp h1
    have := (q_bitT (k := p) (i := u) (by omega)).mp h3
    subst this
    exact h ⟨i, h2, h4.sm⟩
theorem cl_bit {p v : Nat} (hG : GR n k a b) (hp : p < n) : bt (CL k a b c ((1 : Int32) <<< (nI p &&& 31))) v = true ↔ cn k a b c p v := by
  have hn := hG.1
  rw [CL_bt hG (q_bitN hn hp)]
  constructor
  · intro ⟨u, h1, h2⟩
    have := (q_bitT (k := p) (i := u) (by omega)).mp h1
    subst this
    exact h2
  · intro h
    exact ⟨p, (q_bitT (by omega)).mpr rfl, h⟩
theorem c_live {te : Int32} (hG : GR n k a b) (he : ∀ s, s < k → ends s = edg a b s) (ho : inN n o) (hN : 40 ≤ N) : fX1_liveNodes N (nI n) (nI k) br so lo ends c te o = some (CL k a b c o) := by
  unfold fX1_liveNodes
  rw [p_cw hG he ho hN, bd1_ok]
theorem c_earthed {tn : Int32} (hG : GR n k a b) (he : ∀ s, s < k → ends s = edg a b s) (ho : inN n e) (hN : 40 ≤ N) : fX1_earthedNodes N (nI n) (nI k) br so lo ends c e tn = some (CL k a b c e) := by
  unfold fX1_earthedNodes
  rw [p_cw hG he ho hN, bd1_ok]
theorem c_loaded {te : Int32} (hG : GR n k a b) (he : ∀ s, s < k → ends s = edg a b s) (ho : inN n o) (hl : inN n lo) (hN : 40 ≤ N) : fX1_loadedNodes N (nI n) (nI k) br so lo ends c te o = some (CL k a b c o &&& CL k a b c lo) := by
  unfold fX1_loadedNodes
  rw [p_cw hG he ho hN, bd1_ok, p_cw hG he hl hN, bd1_ok]
theorem c_endsOf {s : Nat} (hG : GR n k a b) (he : ∀ s, s < k → ends s = edg a b s) (hs : s < k) {nc sc : Int32} : fX1_endsOf N nc sc br so lo ends (nI s) = some (edg a b s) := by
  have hk := hG.2.1
  unfold fX1_endsOf
  rw [gin_ok (by omega) (by omega), nI_j (by omega), he s hs]
theorem c_conn {s : Nat} {te tn : Int32} (hG : GR n k a b) (he : ∀ s, s < k → ends s = edg a b s) (hs : s < k) (hN : 40 ≤ N) : fX1_areEndsConnected N (nI n) (nI k) br so lo ends c te tn (nI s) = some (bI (cn k a b c (a s) (b s))) := by
  have hk := hG.2.1
  have hn := hG.1
  obtain ⟨ha, hb, hab⟩ := hG.2.2 s hs
  unfold fX1_areEndsConnected
  rw [gin_ok (by omega) (by omega), nI_j (by omega), he s hs]
  have hl : edg a b s &&& (-(edg a b s)) = (1 : Int32) <<< (nI (min (a s) (b s)) &&& 31) := q_low (a s) (by omega) (b s) (by omega) hab
  have hm : min (a s) (b s) < n := by omega
  rw [hl, p_cw hG he (q_bitN hn hm) hN, bd1_ok]
  refine ite_10 ?_
  rw [q_eq]
  have key : (∀ i, bt (CL k a b c ((1 : Int32) <<< (nI (min (a s) (b s)) &&& 31)) &&& edg a b s) i = true ↔ bt (edg a b s) i = true) ↔ (cn k a b c (min (a s) (b s)) (a s) ∧ cn k a b c (min (a s) (b s)) (b s)) := by
    constructor
    · intro h
      have e1 := (h (a s)).mpr ((edg_bt hG hs).mpr (Or.inl rfl))
      have e2 := (h (b s)).mpr ((edg_bt hG hs).mpr (Or.inr rfl))
      rw [b_and, Bool.and_eq_true] at e1 e2
      exact ⟨(cl_bit hG hm).mp e1.1, (cl_bit hG hm).mp e2.1⟩
    · intro ⟨h1, h2⟩ i
      rw [b_and, Bool.and_eq_true]
      constructor
      · exact fun h => h.2
      · intro h
        refine ⟨?_, h⟩
        rcases (edg_bt hG hs).mp h with z | z
        · rw [z]; exact (cl_bit hG hm).mpr h1
        · rw [z]; exact (cl_bit hG hm).mpr h2
  rw [key]
  rcases Nat.lt_or_ge (a s) (b s) with q | q
  · rw [show min (a s) (b s) = a s by omega]
    exact ⟨fun h => h.2, fun h => ⟨cn.rf, h⟩⟩
  · rw [show min (a s) (b s) = b s by omega]
    exact ⟨fun h => h.1.sm, fun h => ⟨h.sm, cn.rf⟩⟩
theorem c_brk {s : Nat} {nc sc : Int32} (hs : s < 32) : fX1_isBreaker N nc sc br so lo (nI s) = some (bI (bt br s = true)) := by
  unfold fX1_isBreaker
  exact ite_01 (by rw [q_t0 hs, bF])
theorem ends_and {s : Nat} {x : Int32} (hG : GR n k a b) (hs : s < k) : x &&& edg a b s = 0 ↔ ¬ (bt x (a s) = true ∨ bt x (b s) = true) := by
  rw [q_and0]
  constructor
  · intro h z
    rcases z with z | z
    · exact h _ z ((edg_bt hG hs).mpr (Or.inl rfl))
    · exact h _ z ((edg_bt hG hs).mpr (Or.inr rfl))
  · intro h i h1 h2
    rcases (edg_bt hG hs).mp h2 with z | z
    · rw [z] at h1; exact h (Or.inl h1)
    · rw [z] at h1; exact h (Or.inr h1)
end NET

