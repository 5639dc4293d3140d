/-! counts: permits held, parts -/
section CNT
variable {n k : Nat} {a b : Nat → Nat} {ends one oth isb : Nat → Int32} {br so lo c e o : Int32} {N g : Nat} {hol mho mih : Nat → Int32}
theorem ctN_c {p q : Nat → Bool} : ∀ n, (∀ i, i < n → p i = q i) → ctN p n = ctN q n
  | 0, _ => rfl
  | n + 1, h => by rw [ctN, ctN, ctN_c n (fun i hi => h i (by omega)), h n (by omega)]
theorem c_count (hg : g ≤ 10) (hN : 40 ≤ N) : fX2_countHeld N (nI g) hol = some (nI (ctN (fun i => decide (¬ hol i = 0)) g)) := by
  unfold fX2_countHeld fX2_isHeld
  refine it2_go (n := g) (fun i X => X = nI (ctN (fun i => decide (¬ hol i = 0)) i)) (fun X => some X) ?_ ?_ rfl (by omega) (fun y hy => by rw [hy])
  · intro f X hX
    show (if nI g ≤ nI g then _ else _) = _
    rw [if_pos (nI_le (Nat.le_refl g) (by omega))]
  · intro f i X hi hX
    show ∃ y, _ ∧ (if nI g ≤ nI i then _ else _) = _
    rw [if_neg (nI_gt hi (by omega)), gin_ok (by omega) (by omega), nI_j (by omega), nI_1]
    refine ⟨_, rfl, ?_⟩
    rw [ctN]
    by_cases q : hol i = 0
    · simp [q, bd1_ok, hX]
    · simp [q, bd1_ok, hX, nI_1]
theorem m_count {f : Nat → Int32} {y : Int32} (hg : g ≤ 10) (hN : 40 ≤ N) :
    it2 (fun (g56 : Int32 → Int32 → Option (Int32 × Int32 × (Nat → Int32))) (x8 : Int32) (x9 : Int32) => (if nI g ≤ x8 then some (x9, y, f) else gin x8 10 ((if (f x8.toNatClampNeg) = 0 then g56 (x8 + 1) (x9 + 0) else g56 (x8 + 1) (x9 + 1))))) N 0 0 = some (nI (ctN (fun i => decide (¬ f i = 0)) g), y, f) := by
  refine it2_go (n := g) (fun i X => X = nI (ctN (fun i => decide (¬ f i = 0)) i)) (fun X => some (X, y, f)) ?_ ?_ rfl (by omega) (fun y hy => by rw [hy])
  · intro f X hX
    show (if nI g ≤ nI g then _ else _) = _
    rw [if_pos (nI_le (Nat.le_refl g) (by omega))]
  · intro f' i X hi hX
    show ∃ y, _ ∧ (if nI g ≤ nI i then _ else _) = _
    rw [if_neg (nI_gt hi (by omega)), gin_ok (by omega) (by omega), nI_j (by omega), nI_1]
    refine ⟨_, rfl, ?_⟩
    rw [ctN]
    by_cases q : f i = 0
    · simp [q, hX]
    · simp [q, hX, nI_1]
noncomputable def rep (k : Nat) (a b : Nat → Nat) (c : Int32) (v : Nat) : Bool := @decide (∀ u, u < v → ¬ cn k a b c u v) (Classical.propDecidable _)
theorem rep_t {v : Nat} : rep k a b c v = true ↔ ∀ u, u < v → ¬ cn k a b c u v := by
  unfold rep
  rw [@decide_eq_true_iff _ (Classical.propDecidable _)]
theorem c_parts {te tn : Int32} (hG : GR n k a b) (he : ∀ s, s < k → ends s = edg a b s) (hN : 40 ≤ N) : fX1_countParts N (nI n) (nI k) br so lo ends c te tn = some (nI (ctN (rep k a b c) n)) := by
  have hn := hG.1
  unfold fX1_countParts fX1_allNodes
  rw [bd1_ok]
  refine it3_go (n := n) (fun i X L => X = nI (ctN (rep k a b c) i) ∧ ∀ v, bt L v = true ↔ v < n ∧ ∀ u, u < i → ¬ cn k a b c u v) (fun X _ => some X) ?_ ?_ ⟨rfl, fun v => ?_⟩ (by omega) (fun x y hy => by rw [hy.1])
  · intro f X L hX
    show (if nI n ≤ nI n then _ else _) = _
    rw [if_pos (nI_le (Nat.le_refl n) (by omega))]
  · intro f i X L hi hX
    show ∃ x y, _ ∧ (if nI n ≤ nI i then _ else _) = _
    rw [if_neg (nI_gt hi (by omega)), nI_1]
    by_cases hr : rep k a b c i = true
    · have hL : bt L i = true := (hX.2 i).mpr ⟨hi, rep_t.mp hr⟩
      rw [if_neg (fun z => by rw [q_t0 (by omega), hL] at z; cases z), p_cw hG he (q_bitN hn hi) hN, bd1_ok]
      refine ⟨_, _, ⟨?_, fun v => ?_⟩, rfl⟩
      · rw [ctN, if_pos hr, hX.1, nI_1]
      · rw [b_and, Bool.and_eq_true, hX.2 v]
        constructor
        · rintro ⟨⟨h1, h2⟩, h3⟩
          refine ⟨h1, fun u hu hc => ?_⟩
          by_cases e : u = i
          · subst e
            rw [q_not (by omega), (cl_bit hG hi).mpr hc] at h3
            cases h3
          · exact h2 u (by omega) hc
        · rintro ⟨h1, h2⟩
          refine ⟨⟨h1, fun u hu => h2 u (by omega)⟩, ?_⟩
          rw [q_not (by omega)]
          have : ¬ bt (CL k a b c ((1 : Int32) <<< (nI i &&& 31))) v = true := fun z => h2 i (by omega) ((cl_bit hG hi).mp z)
          simp [this]
    · have hL : ¬ bt L i = true := fun z => hr (rep_t.mpr ((hX.2 i).mp z).2)
      rw [if_pos ((q_t0 (by omega)).mpr (bF.mp hL))]
      refine ⟨_, _, ⟨?_, fun v => ?_⟩, rfl⟩
      · rw [ctN, if_neg hr, hX.1]; rfl
      · rw [hX.2 v]
        constructor
        · rintro ⟨h1, h2⟩
          refine ⟨h1, fun u hu hc => ?_⟩
          by_cases e : u = i
          · subst e
            exact hr (rep_t.mpr (fun w hw hc2 => h2 w hw (hc2.tr hc)))
          · exact h2 u (by omega) hc
        · rintro ⟨h1, h2⟩
          exact ⟨h1, fun u hu => h2 u (by omega)⟩
  · constructor
    · intro h
      have v32 := b_lt h
      rw [q_all n (by omega) v v32] at h
      exact ⟨by simpa using h, fun u hu => absurd hu (Nat.not_lt_zero u)⟩
    · rintro ⟨h, _⟩
      rw [q_all n (by omega) v (by omega)]
      simpa using h
end CNT

