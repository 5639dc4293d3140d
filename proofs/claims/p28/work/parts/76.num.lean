/-! numbers of acts -/
def opp (q : Nat) : Nat := if q % 2 = 0 then q + 1 else q - 1
theorem a_q : ∀ q, q < 6 → ∀ w, w < 32 → nI (100 * q + w) / 100 = nI q := by decide +kernel
theorem a_w : ∀ q, q < 6 → ∀ w, w < 32 → nI (100 * q + w) - nI (100 * q + w) / 100 * 100 = nI w := by decide +kernel
theorem a_of : ∀ q, q < 6 → ∀ w, w < 32 → (100 : Int32) * nI q + nI w = nI (100 * q + w) := by decide +kernel
theorem a_op : ∀ q, q < 6 → ∀ w, w < 32 → (100 : Int32) * (nI q ^^^ 1) + nI w = nI (100 * opp q + w) := by decide +kernel
theorem a_mp0 : ∀ q, q < 6 → ∀ w, w < 32 → (((nI (100 * q + w) / 100) - (nI (100 * q + w) / 100) / 2 * 2) = 0 ↔ q % 2 = 0) := by decide +kernel
theorem a_mp1 : ∀ q, q < 6 → ∀ w, w < 32 → q % 2 = 0 → nI (100 * q + w) + 100 = nI (100 * opp q + w) := by decide +kernel
theorem a_mp2 : ∀ q, q < 6 → ∀ w, w < 32 → ¬ q % 2 = 0 → nI (100 * q + w) - 100 = nI (100 * opp q + w) := by decide +kernel
theorem ACT.op {n k q w : Nat} (h : ACT n k q w) : ACT n k (opp q) w := by
  obtain ⟨h1, h2, h3⟩ := h
  have : opp q ≤ 5 ∧ (opp q < 2 ↔ q < 2) := by rcases six h1 with rfl | rfl | rfl | rfl | rfl | rfl <;> decide
  refine ⟨this.1, fun z => h2 (this.2.mp z), fun z => h3 (Nat.le_of_not_lt (fun y => Nat.not_lt.mpr z (this.2.mpr y)))⟩
theorem c_kind {N q w : Nat} (hq : q ≤ 5) (hw : w < 32) : fX4_kindOf N (nI (100 * q + w)) = some (nI q) := by unfold fX4_kindOf; rw [a_q q (by omega) w hw]
theorem c_what {N q w : Nat} (hq : q ≤ 5) (hw : w < 32) : fX4_whatOf N (nI (100 * q + w)) = some (nI w) := by unfold fX4_whatOf; rw [a_w q (by omega) w hw]
theorem c_actOf {N q w : Nat} (hq : q ≤ 5) (hw : w < 32) : fX4_actOf N (nI q) (nI w) = some (nI (100 * q + w)) := by unfold fX4_actOf; rw [a_of q (by omega) w hw]
theorem c_opp {N q w : Nat} (hq : q ≤ 5) (hw : w < 32) : fX4_oppositeOf N (nI (100 * q + w)) = some (nI (100 * opp q + w)) := by
  unfold fX4_oppositeOf fX4_actOf
  rw [c_kind hq hw, bd1_ok, c_what hq hw, bd1_ok, bd1_ok, a_op q (by omega) w hw]
/-! a number below n -/
def NIN (n : Nat) (p : Int32) : Prop := ∃ j, j < n ∧ p = nI j
theorem nin_c (p : Int32) (n : Nat) (hn : n < 2 ^ 31) : (NIN n p ∧ ¬ p < 0 ∧ ¬ nI n ≤ p) ∨ (¬ NIN n p ∧ p < 0) ∨ (¬ NIN n p ∧ ¬ p < 0 ∧ nI n ≤ p) := by
  by_cases h : p < 0
  · refine Or.inr (Or.inl ⟨?_, h⟩)
    rintro ⟨j, h1, h2⟩
    rw [h2] at h
    exact nI_pos (by omega) h
  · obtain ⟨j, h1, h2⟩ := nI_of h
    rcases Nat.lt_or_ge j n with q | q
    · exact Or.inl ⟨⟨j, q, h2⟩, h, by rw [h2]; exact nI_gt q hn⟩
    · refine Or.inr (Or.inr ⟨?_, h, by rw [h2]; exact nI_le q h1⟩)
      rintro ⟨i, h3, h4⟩
      rw [h2] at h4
      have := (nI_eq h1 (by omega)).mp h4
      omega
theorem c_hasNode {N n : Nat} {sc br so lo p : Int32} (hn : n < 2 ^ 31) : fX1_hasNode N (nI n) sc br so lo p = some (bI (NIN n p)) := by
  unfold fX1_hasNode
  rcases nin_c p n hn with ⟨h, h1, h2⟩ | ⟨h, h1⟩ | ⟨h, h1, h2⟩
  · rw [if_neg h1, if_neg h2, bI_1 h]
  · rw [if_pos h1, bI_0 h]
  · rw [if_neg h1, if_pos h2, bI_0 h]
theorem c_hasSwitch {N n : Nat} {nc br so lo p : Int32} (hn : n < 2 ^ 31) : fX1_hasSwitch N nc (nI n) br so lo p = some (bI (NIN n p)) := by
  unfold fX1_hasSwitch
  rcases nin_c p n hn with ⟨h, h1, h2⟩ | ⟨h, h1⟩ | ⟨h, h1, h2⟩
  · rw [if_neg h1, if_neg h2, bI_1 h]
  · rw [if_pos h1, bI_0 h]
  · rw [if_neg h1, if_pos h2, bI_0 h]
theorem c_reqN {N n : Nat} {sc br so lo p : Int32} (hn : n < 2 ^ 31) : (NIN n p ∧ fX4_requireNode N (nI n) sc br so lo p = some (.inr ())) ∨ (¬ NIN n p ∧ fX4_requireNode N (nI n) sc br so lo p = some (.inl "java/lang/IndexOutOfBoundsException")) := by
  unfold fX4_requireNode
  rw [c_hasNode hn, bd1_ok]
  by_cases h : NIN n p
  · rw [if_neg (fun z => bI_z.mp z h)]; exact Or.inl ⟨h, rfl⟩
  · rw [if_pos (bI_z.mpr h)]; exact Or.inr ⟨h, rfl⟩
