/-! numbers of acts -/
def opp (q : Nat) : Nat := if q % 2 = 0 then q + 1 else q - 1
theorem a_q : ∀ q, q < 6 → ∀ w, w < 32 → nI (100 * q + w) / 100 = nI q := by decide +kernel
theorem a_w : ∀ q, q < 6 → ∀ w, w < 32 → nI (100 * q + w) - nI (100 * q + w) / 100 * 100 = nI w := by decide +kernel
theorem a_of : ∀ q, q < 6 → ∀ w, w < 32 → (100 : Int32) * nI q + nI w = nI (100 * q + w) := by decide +kernel
theorem a_op : ∀ q, q < 6 → ∀ w, w < 32 → (100 : Int32) * (nI q ^^^ 1) + nI w = nI (100 * opp q + w) := by decide +kernel
theorem a_mp0 : ∀ q, q < 6 → ∀ w, w < 32 → (((nI (100 * q + w) / 100) - (nI (100 * q + w) / 100) / 2 * 2) = 0 ↔ q % 2 = 0) := by decide +kernel
theorem a_mp1 : ∀ q, q < 6 → ∀ w, w < 32 → q % 2 = 0 → nI (100 * q + w) + 100 = nI (100 * opp q + w) := by decide +kernel
theorem a_mp2 : ∀ q, q < 6 → ∀ w, w < 32 → ¬ q % 2 = 0 → nI (100 * q + w) - 100 = nI (100 * opp q + w) := by decide +kernel
theorem ACT.op {n k q w : Nat} (h : ACT n k q w) : ACT n k (opp q) w := by
  obtain ⟨h1, h2, h3⟩ := h
  have : opp q ≤ 5 ∧ (opp q < 2 ↔ q < 2) := by rcases six h1 with rfl | rfl | rfl | rfl | rfl | rfl <;> decide
  refine ⟨this.1, fun z => h2 (this.2.mp z), fun z => h3 (Nat.le_of_not_lt (fun y => Nat.not_lt.mpr z (this.2.mpr y)))⟩
theorem c_kind {N q w : Nat} (hq : q ≤ 5) (hw : w < 32) : fX4_kindOf N (nI (100 * q + w)) = some (nI q) := by unfold fX4_kindOf; rw [a_q q (by omega) w hw]
theorem c_what {N q w : Nat} (hq : q ≤ 5) (hw : w < 32) : fX4_whatOf N (nI (100 * q + w)) = some (nI w) := by unfold fX4_whatOf; rw [a_w q (by omega) w hw]
theorem c_actOf {N q w : Nat} (hq : q ≤ 5) (hw : w < 32) : fX4_actOf N (nI q) (nI w) = some (nI (100 * q + w)) := by unfold fX4_actOf; rw [a_of q (by omega) w hw]
theorem c_opp {N q w : Nat} (hq : q ≤ 5) (hw : w < 32) : fX4_oppositeOf N (nI (100 * q + w)) = some (nI (100 * opp q + w)) := by
  unfold fX4_oppositeOf fX4_actOf
  rw [c_kind hq hw, bd1_ok, c_what hq hw, bd1_ok, bd1_ok, a_op q (by omega) w hw]
theorem m_opp {N q w : Nat} (hq : q ≤ 5) (hw : w < 32) : fX5_opposite N (nI (100 * q + w)) = some (nI (100 * opp q + w)) := by
  unfold fX5_opposite
  by_cases h : q % 2 = 0
  · rw [if_pos ((a_mp0 q (by omega) w hw).mpr h), a_mp1 q (by omega) w hw h]
  · rw [if_neg (fun z => h ((a_mp0 q (by omega) w hw).mp z)), a_mp2 q (by omega) w hw h]
/-! a number below n -/
def NIN (n : Nat) (p : Int32) : Prop := ∃ j, j < n ∧ p = nI j
theorem nin_c (p : Int32) (n : Nat) (hn : n < 2 ^ 31) : (NIN n p ∧ ¬ p < 0 ∧ ¬ nI n ≤ p) ∨ (¬ NIN n p ∧ p < 0) ∨ (¬ NIN n p ∧ ¬ p < 0 ∧ nI n ≤ p) := by
  by_cases h : p < 0
  · refine Or.inr (Or.inl ⟨?_, h⟩)
    rintro ⟨j, h1, h2⟩
    rw [h2] at h
    exact nI_pos (by omega) h
  · obtain ⟨j, h1, h2⟩ := nI_of h
    rcases Nat.lt_or_ge j n with q | q
    · exact Or.inl ⟨⟨j, q, h2⟩, h, by rw [h2]; exact nI_gt q hn⟩
    · refine Or.inr (Or.inr ⟨?_, h, by rw [h2]; exact nI_le q h1⟩)
      rintro ⟨i, h3, h4⟩
      rw [h2] at h4
      have := (nI_eq h1 (by omega)).mp h4
      omega
theorem c_hasNode {N n : Nat} {sc br so lo p : Int32} (hn : n < 2 ^ 31) : fX1_hasNode N (nI n) sc br so lo p = some (bI (NIN n p)) := by
  unfold fX1_hasNode
  rcases nin_c p n hn with ⟨h, h1, h2⟩ | ⟨h, h1⟩ | ⟨h, h1, h2⟩
  · rw [if_neg h1, if_neg h2, bI_1 h]
  · rw [if_pos h1, bI_0 h]
  · rw [if_neg h1, if_pos h2, bI_0 h]
theorem c_hasSwitch {N n : Nat} {nc br so lo p : Int32} (hn : n < 2 ^ 31) : fX1_hasSwitch N nc (nI n) br so lo p = some (bI (NIN n p)) := by
  unfold fX1_hasSwitch
  rcases nin_c p n hn with ⟨h, h1, h2⟩ | ⟨h, h1⟩ | ⟨h, h1, h2⟩
  · rw [if_neg h1, if_neg h2, bI_1 h]
  · rw [if_pos h1, bI_0 h]
  · rw [if_neg h1, if_pos h2, bI_0 h]
theorem m_in {N n : Nat} {p : Int32} (hn : n < 2 ^ 31) : fX5_in N p 0 (nI n - 1) = some (bI (NIN n p)) := by
  unfold fX5_in
  by_cases h : p < 0
  · rw [if_pos h, bI_0]
    rintro ⟨j, h1, h2⟩
    rw [h2] at h
    exact nI_pos (by omega) h
  · rw [if_neg h]
    obtain ⟨j, h1, h2⟩ := nI_of h
    cases n with
    | zero =>
      have : nI 0 - 1 < p := by
        rw [h2]
        show (-1 : Int32) < nI j
        rw [Int32.lt_iff_toInt_lt, nI_toInt h1]
        show (-1 : Int) < j
        omega
      rw [if_pos this, bI_0]
      rintro ⟨i, h3, _⟩
      omega
    | succ m =>
      rw [nI_pred]
      rcases Nat.lt_or_ge m j with q | q
      · rw [h2, if_pos (nI_lt q h1), bI_0]
        rintro ⟨i, h3, h4⟩
        have := (nI_eq h1 (by omega)).mp h4
        omega
      · rw [h2, if_neg (nI_nlt q (by omega)), bI_1 ⟨j, by omega, rfl⟩]
theorem m_isNode {N n : Nat} {th sw so lo cl ea on lg wr pe p : Int32} (hn : n < 2 ^ 31) : fX5_isNode N th (nI n) sw so lo cl ea on lg wr pe p = some (bI (NIN n p)) := by
  unfold fX5_isNode
  rw [m_in hn, bd1_ok, gd_ok bI_bz]
theorem m_isSwitch {N n : Nat} {th nd so lo cl ea on lg wr pe p : Int32} (hn : n < 2 ^ 31) : fX5_isSwitch N th nd (nI n) so lo cl ea on lg wr pe p = some (bI (NIN n p)) := by
  unfold fX5_isSwitch
  rw [m_in hn, bd1_ok, gd_ok bI_bz]
theorem c_reqN {N n : Nat} {sc br so lo p : Int32} (hn : n < 2 ^ 31) : (NIN n p ∧ fX4_requireNode N (nI n) sc br so lo p = some (.inr ())) ∨ (¬ NIN n p ∧ fX4_requireNode N (nI n) sc br so lo p = some (.inl "java/lang/IndexOutOfBoundsException")) := by
  unfold fX4_requireNode
  rw [c_hasNode hn, bd1_ok]
  by_cases h : NIN n p
  · rw [if_neg (fun z => bI_z.mp z h)]; exact Or.inl ⟨h, rfl⟩
  · rw [if_pos (bI_z.mpr h)]; exact Or.inr ⟨h, rfl⟩
/-- what may be asked: the program's requireAct and the reference's asks -/
theorem ask2 {N n k : Nat} {br so lo th so' lo' cl ea on lg wr pe p0 p1 : Int32} (hn : n ≤ 16) (hk : k ≤ 24) :
    (∃ q w, ACT n k q w ∧ p0 = nI q ∧ p1 = nI w ∧ fX4_requireAct N (nI n) (nI k) br so lo p0 p1 = some (.inr ()) ∧ fX5_asks N th (nI n) (nI k) so' lo' cl ea on lg wr pe p0 p1 = some (1, 0)) ∨
    (fX4_requireAct N (nI n) (nI k) br so lo p0 p1 = some (.inl "java/lang/IllegalArgumentException") ∧ fX5_asks N th (nI n) (nI k) so' lo' cl ea on lg wr pe p0 p1 = some (0, 1)) ∨
    (fX4_requireAct N (nI n) (nI k) br so lo p0 p1 = some (.inl "java/lang/IndexOutOfBoundsException") ∧ fX5_asks N th (nI n) (nI k) so' lo' cl ea on lg wr pe p0 p1 = some (0, 2)) := by
  have h6 : fX5_in N p0 0 5 = some (bI (NIN 6 p0)) := m_in (N := N) (n := 6) (p := p0) (by omega)
  unfold fX4_requireAct fX5_asks
  rw [h6, bd1_ok]
  simp only [jn1]
  rcases nin_c p0 6 (by omega) with ⟨h, h1, h2⟩ | ⟨h, h1⟩ | ⟨h, h1, h2⟩
  · obtain ⟨q, hq, rfl⟩ := h
    have e5 : nI q ≤ 5 := nI_le (a := q) (b := 5) (by omega) (by omega)
    have hbq : ¬ bI (NIN 6 (nI q)) = 0 := fun z => bI_z.mp z ⟨q, hq, rfl⟩
    rw [if_neg h1, if_pos e5, if_neg hbq, c_hasNode (by omega), c_hasSwitch (by omega), m_isNode (by omega), m_isSwitch (by omega)]
    by_cases h2q : q < 2
    · have e2 : ¬ (2 : Int32) ≤ nI q := nI_gt (i := q) (n := 2) h2q (by omega)
      have eo : fX4_isOfSwitch N (nI q) = some 1 := by
        unfold fX4_isOfSwitch
        rcases (show q = 0 ∨ q = 1 by omega) with rfl | rfl <;> rfl
      rw [eo, if_neg e2]
      simp only [bd1_ok]
      by_cases hs : NIN k p1
      · obtain ⟨w, hw, rfl⟩ := id hs
        refine Or.inl ⟨q, w, ⟨by omega, fun _ => hw, fun z => by omega⟩, rfl, rfl, ?_, ?_⟩
        · rw [bI_1 hs]; rfl
        · rw [bI_1 hs]; rfl
      · refine Or.inr (Or.inr ⟨?_, ?_⟩)
        · rw [bI_0 hs]; rfl
        · rw [bI_0 hs]; rfl
    · have e2 : (2 : Int32) ≤ nI q := nI_le (a := 2) (b := q) (by omega) (by omega)
      have eo : fX4_isOfSwitch N (nI q) = some 0 := by
        unfold fX4_isOfSwitch
        rcases (show q = 2 ∨ q = 3 ∨ q = 4 ∨ q = 5 by omega) with rfl | rfl | rfl | rfl <;> rfl
      rw [eo, if_pos e2]
      simp only [bd1_ok]
      by_cases hs : NIN n p1
      · obtain ⟨w, hw, rfl⟩ := id hs
        refine Or.inl ⟨q, w, ⟨by omega, fun z => by omega, fun _ => hw⟩, rfl, rfl, ?_, ?_⟩
        · rw [bI_1 hs]; rfl
        · rw [bI_1 hs]; rfl
      · refine Or.inr (Or.inr ⟨?_, ?_⟩)
        · rw [bI_0 hs]; rfl
        · rw [bI_0 hs]; rfl
  · refine Or.inr (Or.inl ⟨if_pos h1, ?_⟩)
    rw [if_pos (bI_z.mpr h)]; rfl
  · have e5 : ¬ p0 ≤ 5 := fun z => by
      obtain ⟨j, hj, e⟩ := nI_of h1
      rw [e] at z h2
      have := (nI_leI hj (b := 5) (by omega)).mp z
      have := (nI_leI (a := 6) (by omega) hj).mp h2
      omega
    refine Or.inr (Or.inl ⟨by rw [if_neg h1, if_neg e5], ?_⟩)
    rw [if_pos (bI_z.mpr h)]; rfl
