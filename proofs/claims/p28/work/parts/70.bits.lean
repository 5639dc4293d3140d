/-! bits of Int32 (the first family is kit/laws/BITS', pasted) -/
def bt (x : Int32) (i : Nat) : Bool := x.toBitVec.getLsbD i
theorem b_ext {x y : Int32} (h : ∀ i, i < 32 → bt x i = bt y i) : x = y := Int32.toBitVec_inj.mp (BitVec.eq_of_getLsbD_eq (fun i hi => h i hi))
theorem b_or (x y : Int32) (i : Nat) : bt (x ||| y) i = (bt x i || bt y i) := by unfold bt; rw [Int32.toBitVec_or, BitVec.getLsbD_or]
theorem b_and (x y : Int32) (i : Nat) : bt (x &&& y) i = (bt x i && bt y i) := by unfold bt; rw [Int32.toBitVec_and, BitVec.getLsbD_and]
theorem b_xor (x y : Int32) (i : Nat) : bt (x ^^^ y) i = (bt x i ^^ bt y i) := by unfold bt; rw [Int32.toBitVec_xor, BitVec.getLsbD_xor]
theorem b_big {x : Int32} {i : Nat} (h : 32 ≤ i) : bt x i = false := BitVec.getLsbD_of_ge _ _ h
theorem b_m1 : ∀ i, i < 32 → bt (-1) i = true := by decide +kernel
theorem b_0 (i : Nat) : bt 0 i = false := BitVec.getLsbD_zero
theorem s_l : ∀ n, n < 32 → ((nI n &&& 31).toBitVec.smod 32).toNat = n := by decide +kernel
theorem b_shl (n : Nat) (hn : n < 32) (x : Int32) {i : Nat} (hi : i < 32) : bt (x <<< (nI n &&& 31)) i = (decide (n ≤ i) && bt x (i - n)) := by
  unfold bt
  rw [Int32.toBitVec_shiftLeft]
  show (x.toBitVec <<< ((nI n &&& 31).toBitVec.smod 32).toNat).getLsbD i = _
  rw [s_l n hn, BitVec.getLsbD_shiftLeft]
  rcases Nat.lt_or_ge i n with h | h
  · simp [h, Nat.not_le.mpr h]
  · simp [hi, h, Nat.not_lt.mpr h]
theorem b_sshr (n : Nat) (hn : n < 32) (x : Int32) {i : Nat} (hi : i < 32) : bt (x >>> (nI n &&& 31)) i = if n + i < 32 then bt x (n + i) else bt x 31 := by
  unfold bt
  rw [Int32.toBitVec_shiftRight]
  show (x.toBitVec.sshiftRight ((nI n &&& 31).toBitVec.smod 32).toNat).getLsbD i = _
  rw [s_l n hn, BitVec.getLsbD_sshiftRight, BitVec.msb_eq_getLsbD_last]
  simp [hi]
theorem q_1 : ∀ i, i < 32 → bt 1 i = decide (i = 0) := by decide +kernel
theorem b_lt {x : Int32} {i : Nat} (h : bt x i = true) : i < 32 := by
  rcases Nat.lt_or_ge i 32 with q | q
  · exact q
  · rw [b_big q] at h; cases h
theorem q_bit {k : Nat} (hk : k < 32) (i : Nat) : bt ((1 : Int32) <<< (nI k &&& 31)) i = decide (i = k) := by
  rcases Nat.lt_or_ge i 32 with h | h
  · rw [b_shl k hk 1 h]
    rcases Nat.lt_or_ge i k with q | q
    · simp [Nat.not_le.mpr q, Nat.ne_of_lt q]
    · rw [q_1 (i - k) (by omega)]
      by_cases e : i = k
      · simp [e]
      · simp [e, q, show ¬ i - k = 0 by omega]
  · rw [b_big h]
    simp [show ¬ i = k by omega]
theorem q_bitT {k i : Nat} (hk : k < 32) : bt ((1 : Int32) <<< (nI k &&& 31)) i = true ↔ i = k := by rw [q_bit hk]; simp
theorem q_and0 {x y : Int32} : x &&& y = 0 ↔ ∀ i, bt x i = true → bt y i = true → False := by
  constructor
  · intro h i h1 h2
    have e : bt (x &&& y) i = true := by rw [b_and, h1, h2]; rfl
    rw [h, b_0] at e
    cases e
  · intro h
    refine b_ext (fun i _ => ?_)
    rw [b_and, b_0]
    cases h1 : bt x i
    · rfl
    · cases h2 : bt y i
      · rfl
      · exact (h i h1 h2).elim
theorem q_andN {x y : Int32} : ¬ x &&& y = 0 ↔ ∃ i, bt x i = true ∧ bt y i = true := by
  rw [q_and0]
  constructor
  · intro h
    refine Classical.byContradiction (fun q => h (fun i h1 h2 => q ⟨i, h1, h2⟩))
  · intro ⟨i, h1, h2⟩ h
    exact h i h1 h2
theorem q_tst {x : Int32} {k : Nat} (hk : k < 32) : (x >>> (nI k &&& 31)) &&& 1 = if bt x k = true then 1 else 0 := by
  refine b_ext (fun i hi => ?_)
  rw [b_and, b_sshr k hk x hi, q_1 i hi]
  by_cases e : i = 0
  · subst e
    rw [if_pos (show k + 0 < 32 by omega), Nat.add_zero]
    cases h : bt x k
    · simp [b_0]
    · simp [q_1]
  · simp only [e, decide_false, Bool.and_false]
    cases h : bt x k
    · simp [b_0]
    · simp [q_1 i hi, e]
theorem q_t0 {x : Int32} {k : Nat} (hk : k < 32) : (x >>> (nI k &&& 31)) &&& 1 = 0 ↔ bt x k = false := by
  rw [q_tst hk]
  cases h : bt x k
  · simp
  · simp
theorem q_t1 {x : Int32} {k : Nat} (hk : k < 32) : (x >>> (nI k &&& 31)) &&& 1 = 1 ↔ bt x k = true := by
  rw [q_tst hk]
  cases h : bt x k
  · simp
  · simp
theorem q_not {x : Int32} {i : Nat} (hi : i < 32) : bt (x ^^^ (-1)) i = !bt x i := by rw [b_xor, b_m1 i hi]; simp
theorem q_all : ∀ n, n < 17 → ∀ i, i < 32 → bt (((1 : Int32) <<< (nI n &&& 31)) - 1) i = decide (i < n) := by decide +kernel
theorem q_bit0 : ∀ k, k < 32 → ¬ ((1 : Int32) <<< (nI k &&& 31)) = 0 := by decide +kernel
theorem q_eq {x y : Int32} : x = y ↔ ∀ i, bt x i = true ↔ bt y i = true := by
  constructor
  · intro h i; rw [h]
  · intro h
    refine b_ext (fun i _ => ?_)
    cases h1 : bt x i
    · cases h2 : bt y i
      · rfl
      · rw [(h i).mpr h2] at h1; cases h1
    · exact ((h i).mp h1).symm
theorem q_low : ∀ a, a < 16 → ∀ b, b < 16 → a ≠ b → (((1 : Int32) <<< (nI a &&& 31)) ||| ((1 : Int32) <<< (nI b &&& 31))) &&& (-(((1 : Int32) <<< (nI a &&& 31)) ||| ((1 : Int32) <<< (nI b &&& 31)))) = (1 : Int32) <<< (nI (min a b) &&& 31) := by decide +kernel
/-! a set of numbers as an Int32 -/
def mkS (p : Nat → Bool) : Nat → Int32
  | 0 => 0
  | i + 1 => mkS p i ||| (if p i = true then (1 : Int32) <<< (nI i &&& 31) else 0)
theorem mkS_bt (p : Nat → Bool) : ∀ n, n ≤ 32 → ∀ i, bt (mkS p n) i = (decide (i < n) && p i)
  | 0, _, i => by simp [mkS, b_0]
  | n + 1, hn, i => by
    rw [mkS, b_or, mkS_bt p n (by omega) i]
    by_cases h : p n = true
    · rw [if_pos h, q_bit (by omega)]
      by_cases e : i = n
      · subst e; simp [h]
      · by_cases q : i < n
        · simp [q, show i < n + 1 by omega, e]
        · simp [q, show ¬ i < n + 1 by omega, e]
    · rw [if_neg h, b_0]
      have h : p n = false := by cases e : p n <;> simp_all
      by_cases e : i = n
      · subst e; simp [h]
      · by_cases q : i < n
        · simp [q, show i < n + 1 by omega]
        · simp [q, show ¬ i < n + 1 by omega]
/-! how many of the first n -/
def ctN (p : Nat → Bool) : Nat → Nat
  | 0 => 0
  | n + 1 => ctN p n + (if p n = true then 1 else 0)
theorem ctN_le (p : Nat → Bool) : ∀ n, ctN p n ≤ n
  | 0 => Nat.le_refl 0
  | n + 1 => by
    have h := ctN_le p n
    rw [ctN]
    split <;> omega
theorem ctN_mono {p q : Nat → Bool} (h : ∀ i, p i = true → q i = true) : ∀ n, ctN p n ≤ ctN q n
  | 0 => Nat.le_refl 0
  | n + 1 => by
    have h1 := ctN_mono h n
    rw [ctN, ctN]
    by_cases e : p n = true
    · rw [if_pos e, if_pos (h n e)]; omega
    · rw [if_neg e]; split <;> omega
theorem ctN_lt {p q : Nat → Bool} (h : ∀ i, p i = true → q i = true) {j : Nat} (hp : ¬ p j = true) (hq : q j = true) : ∀ n, j < n → ctN p n < ctN q n
  | 0, hj => absurd hj (Nat.not_lt_zero j)
  | n + 1, hj => by
    rw [ctN, ctN]
    by_cases e : j = n
    · subst e
      have h1 := ctN_mono h j
      rw [if_neg hp, if_pos hq]; omega
    · have h1 := ctN_lt h hp hq n (by omega)
      by_cases e : p n = true
      · rw [if_pos e, if_pos (h n e)]; omega
      · rw [if_neg e]; split <;> omega
theorem ctN_pos {p : Nat → Bool} {j : Nat} (hj : p j = true) : ∀ n, j < n → 0 < ctN p n
  | 0, h => absurd h (Nat.not_lt_zero j)
  | n + 1, h => by
    rw [ctN]
    by_cases e : j = n
    · subst e; rw [if_pos hj]; omega
    · have := ctN_pos hj n (by omega)
      omega
/-! numbers, partial programs -/
theorem gin_ok {α : Type} {j n : Nat} (h : j < n) (hn : n < 2 ^ 31) (k : Option α) : gin (nI j) n k = k := by
  unfold gin
  rw [if_neg (nI_in h hn)]
theorem gd_ok {α : Type} {c : Bool} (h : c = true) (k : Option α) : gd c k = k := by unfold gd; rw [if_pos h]
theorem bd1_ok {α ρ : Type} (v : α) (k : α → Option ρ) : bd1 (some v) k = k v := rfl
theorem bd2_ok {A B ρ : Type} (a : A) (b : B) (k : A → B → Option ρ) : bd2 (some (a, b)) k = k a b := rfl
theorem bd3_ok {A B C ρ : Type} (a : A) (b : B) (c : C) (k : A → B → C → Option ρ) : bd3 (some (a, b, c)) k = k a b c := rfl
theorem bd4_ok {A B C D ρ : Type} (a : A) (b : B) (c : C) (d : D) (k : A → B → C → D → Option ρ) : bd4 (some (a, b, c, d)) k = k a b c d := rfl
theorem nI_j {j : Nat} (h : j < 2 ^ 31) : (nI j).toNatClampNeg = j := nI_clamp h
/-- a for-loop over a number: invariant I, what comes behind it E -/
theorem it2_inv {A ρ : Type} {F : (Int32 → A → Option ρ) → Int32 → A → Option ρ} {n : Nat} (I : Nat → A → Prop) (E : A → Option ρ) (hex : ∀ (g : Int32 → A → Option ρ) (x : A), I n x → F g (nI n) x = E x)
    (hst : ∀ (g : Int32 → A → Option ρ) (i : Nat) (x : A), i < n → I i x → ∃ y, I (i + 1) y ∧ F g (nI i) x = g (nI (i + 1)) y) : ∀ (N i : Nat) (x : A), i ≤ n → n - i < N → I i x → ∃ y, I n y ∧ it2 F N (nI i) x = E y
  | 0, i, x, _, h, _ => absurd h (Nat.not_lt_zero _)
  | N + 1, i, x, hi, hN, hx => by
    rcases Nat.lt_or_ge i n with q | q
    · obtain ⟨y, hy, e⟩ := hst (it2 F N) i x q hx
      obtain ⟨z, hz, e2⟩ := it2_inv I E hex hst N (i + 1) y q (by omega) hy
      exact ⟨z, hz, by rw [it2, e, e2]⟩
    · have hin : i = n := by omega
      subst hin
      exact ⟨x, hx, by rw [it2, hex _ x hx]⟩
theorem it3_inv {A B ρ : Type} {F : (Int32 → A → B → Option ρ) → Int32 → A → B → Option ρ} {n : Nat} (I : Nat → A → B → Prop) (E : A → B → Option ρ) (hex : ∀ (g : Int32 → A → B → Option ρ) (x : A) (y : B), I n x y → F g (nI n) x y = E x y)
    (hst : ∀ (g : Int32 → A → B → Option ρ) (i : Nat) (x : A) (y : B), i < n → I i x y → ∃ x' y', I (i + 1) x' y' ∧ F g (nI i) x y = g (nI (i + 1)) x' y') : ∀ (N i : Nat) (x : A) (y : B), i ≤ n → n - i < N → I i x y → ∃ x' y', I n x' y' ∧ it3 F N (nI i) x y = E x' y'
  | 0, i, x, y, _, h, _ => absurd h (Nat.not_lt_zero _)
  | N + 1, i, x, y, hi, hN, hx => by
    rcases Nat.lt_or_ge i n with q | q
    · obtain ⟨x1, y1, hy, e⟩ := hst (it3 F N) i x y q hx
      obtain ⟨x2, y2, hz, e2⟩ := it3_inv I E hex hst N (i + 1) x1 y1 q (by omega) hy
      exact ⟨x2, y2, hz, by rw [it3, e, e2]⟩
    · have hin : i = n := by omega
      subst hin
      exact ⟨x, y, hx, by rw [it3, hex _ x y hx]⟩
theorem it2_go {A ρ : Type} {F : (Int32 → A → Option ρ) → Int32 → A → Option ρ} {n N : Nat} {x : A} {T : Option ρ} (I : Nat → A → Prop) (E : A → Option ρ) (hex : ∀ (g : Int32 → A → Option ρ) (x : A), I n x → F g (nI n) x = E x)
    (hst : ∀ (g : Int32 → A → Option ρ) (i : Nat) (x : A), i < n → I i x → ∃ y, I (i + 1) y ∧ F g (nI i) x = g (nI (i + 1)) y) (h0 : I 0 x) (hN : n < N) (hk : ∀ y, I n y → E y = T) : it2 F N 0 x = T := by
  obtain ⟨y, hy, e⟩ := it2_inv I E hex hst N 0 x (Nat.zero_le n) (by omega) h0
  rw [nI_0] at e
  rw [e]
  exact hk y hy
theorem it3_go {A B ρ : Type} {F : (Int32 → A → B → Option ρ) → Int32 → A → B → Option ρ} {n N : Nat} {x : A} {y : B} {T : Option ρ} (I : Nat → A → B → Prop) (E : A → B → Option ρ) (hex : ∀ (g : Int32 → A → B → Option ρ) (x : A) (y : B), I n x y → F g (nI n) x y = E x y)
    (hst : ∀ (g : Int32 → A → B → Option ρ) (i : Nat) (x : A) (y : B), i < n → I i x y → ∃ x' y', I (i + 1) x' y' ∧ F g (nI i) x y = g (nI (i + 1)) x' y') (h0 : I 0 x y) (hN : n < N) (hk : ∀ x y, I n x y → E x y = T) : it3 F N 0 x y = T := by
  obtain ⟨x', y', hy, e⟩ := it3_inv I E hex hst N 0 x y (Nat.zero_le n) (by omega) h0
  rw [nI_0] at e
  rw [e]
  exact hk x' y' hy

