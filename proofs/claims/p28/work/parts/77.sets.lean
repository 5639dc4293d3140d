/-! sets that are answered -/
section SETS
variable {n k : Nat} {a b : Nat → Nat} {ends one oth isb : Nat → Int32} {br so lo c e o : Int32} {N g : Nat} {hol mho mih : Nat → Int32}
theorem mkS_all {S : Int32} (hS : inN n S) (hn : n ≤ 16) : mkS (bt S) n = S := by
  refine b_ext (fun i _ => ?_)
  rw [mkS_bt _ n (by omega)]
  cases h : bt S i
  · simp
  · simp [hS i h]
theorem m_set {f : Int32 → Option Int32} {S : Int32} (hn : n ≤ 16) (hS : inN n S) (hN : 40 ≤ N) (hf : ∀ p, p < n → f (nI p) = some (bI (bt S p = true))) :
    it2 (fun (g9 : Int32 → Int32 → Option (Int32 × Int32)) (x1 : Int32) (x2 : Int32) => (if nI n ≤ x1 then some (x2, 0) else bd1 (f x1) (fun (v6 : Int32) => (if v6 = 0 then g9 (x1 + 1) (x2 ||| 0) else g9 (x1 + 1) (x2 ||| ((1 : Int32) <<< (x1 &&& 31))))))) N 0 0 = some (S, 0) := by
  refine it2_go (n := n) (fun i X => X = mkS (bt S) i) (fun X => some (X, 0)) ?_ ?_ rfl (by omega) (fun y hy => by rw [hy, mkS_all hS hn])
  · intro f X hX
    show (if nI n ≤ nI n then _ else _) = _
    rw [if_pos (nI_le (Nat.le_refl n) (by omega))]
  · intro f' i X hi hX
    show ∃ y, _ ∧ (if nI n ≤ nI i then _ else _) = _
    rw [if_neg (nI_gt hi (by omega)), hf i hi, bd1_ok, nI_1]
    by_cases h : bt S i = true
    · rw [if_neg (fun z => bI_z.mp z h)]
      exact ⟨_, by rw [mkS, if_pos h, ← hX], rfl⟩
    · rw [if_pos (bI_z.mpr h)]
      exact ⟨_, by rw [mkS, if_neg h, ← hX], rfl⟩
/-! permits -/
theorem c_can (hG : GR n k a b) (he : ∀ s, s < k → ends s = edg a b s) (hie : inN n e) (hio : inN n o) (hg : g ≤ 10) (hN : 40 ≤ N) {p : Int32} :
    fX4_canBeHeld N (nI n) (nI k) br so lo ends c e o (nI g) hol p = some (bI (SFE k a b c e o p ∧ p &&& orF hol g = 0)) := by
  unfold fX4_canBeHeld
  rw [c_safe hG he hie hio hN, bd1_ok, c_held hg hN, bd1_ok]
  exact ifp_and (fun _ => ite_10 Iff.rfl)
theorem all_eq : ∀ n, n < 17 → ((1 : Int32) <<< (nI n &&& 31)) - 1 = nI (2 ^ n - 1) := by decide +kernel
theorem bt_nI {j i : Nat} (hi : i < 32) : bt (nI j) i = j.testBit i := by
  unfold bt nI
  rw [Int32.toBitVec_ofNat', BitVec.getLsbD_ofNat]
  simp [hi]
theorem neg_bt {p : Int32} (h : p < 0) : bt p 31 = true := by
  unfold bt
  have : p.toBitVec.msb = true := by
    rw [BitVec.msb_eq_toInt, decide_eq_true_eq]
    exact Int32.lt_iff_toInt_lt.mp h
  rw [BitVec.msb_eq_getLsbD_last] at this
  exact this
theorem rng {p : Int32} (hn : n ≤ 16) : inN n p ↔ ¬ p < 0 ∧ ¬ (((1 : Int32) <<< (nI n &&& 31)) - 1) < p := by
  rw [all_eq n (by omega)]
  have h2 : 2 ^ n < 2 ^ 31 := Nat.pow_lt_pow_right (by omega) (by omega)
  have h3 : 0 < 2 ^ n := Nat.pow_pos (by omega)
  constructor
  · intro h
    have hp : ¬ p < 0 := fun z => by
      have := h 31 (neg_bt z)
      omega
    refine ⟨hp, ?_⟩
    obtain ⟨j, hj, rfl⟩ := nI_of hp
    have : j < 2 ^ n := by
      refine Nat.lt_pow_two_of_testBit j (fun i hi => ?_)
      rcases Nat.lt_or_ge i 32 with q | q
      · rw [← bt_nI q]
        cases z : bt (nI j) i
        · rfl
        · have := h i z
          omega
      · exact Nat.testBit_lt_two_pow (Nat.lt_of_lt_of_le hj (Nat.pow_le_pow_right (by omega) (by omega)))
    exact nI_nlt (by omega) (by omega)
  · rintro ⟨h, h1⟩
    obtain ⟨j, hj, rfl⟩ := nI_of h
    have hj2 : j < 2 ^ n := by
      refine Classical.byContradiction (fun z => h1 (nI_lt (by omega) hj))
    intro i hi
    have i32 := b_lt hi
    rw [bt_nI i32] at hi
    refine Classical.byContradiction (fun z => ?_)
    rw [Nat.testBit_lt_two_pow (Nat.lt_of_lt_of_le hj2 (Nat.pow_le_pow_right (by omega) (by omega)))] at hi
    cases hi
theorem rng2 {p : Int32} (hn : n ≤ 16) : p &&& ((((1 : Int32) <<< (nI n &&& 31)) - 1) ^^^ (-1)) = 0 ↔ inN n p := by
  rw [q_and0]
  constructor
  · intro h v hv
    have v32 := b_lt hv
    refine Classical.byContradiction (fun z => h v hv ?_)
    rw [q_not v32, q_all n (by omega) v v32]
    simp; omega
  · intro h v hv h2
    have v32 := b_lt hv
    have := h v hv
    rw [q_not v32, q_all n (by omega) v v32] at h2
    simp at h2; omega
theorem nar1 : vp_nar .boolean 1 = 1 := rfl
theorem nar0 : vp_nar .boolean 0 = 0 := rfl
end SETS

