/-! toLive -/
section LIV
variable {n k : Nat} {a b : Nat → Nat} {ends one oth isb : Nat → Int32} {br so lo c e o : Int32} {N p : Nat}
def WNx (a b : Nat → Nat) (R : Int32) : Nat → Int32
  | 0 => R
  | s + 1 => WNx a b R s ||| (if edg a b s &&& R = 0 then 0 else edg a b s)
theorem edg_and {s : Nat} {x : Int32} (hG : GR n k a b) (hs : s < k) : edg a b s &&& x = 0 ↔ ¬ (bt x (a s) = true ∨ bt x (b s) = true) := by
  rw [← ends_and hG hs, q_and0, q_and0]
  exact ⟨fun h i h1 h2 => h i h2 h1, fun h i h1 h2 => h i h2 h1⟩
theorem WNx_bt {R : Int32} {v : Nat} (hG : GR n k a b) : ∀ s, s ≤ k → (bt (WNx a b R s) v = true ↔ bt R v = true ∨ ∃ t, t < s ∧ (bt R (a t) = true ∨ bt R (b t) = true) ∧ (v = a t ∨ v = b t))
  | 0, _ => by
    rw [WNx]
    exact ⟨Or.inl, fun h => h.elim id (fun ⟨t, h, _⟩ => absurd h (Nat.not_lt_zero t))⟩
  | s + 1, hs => by
    rw [WNx, b_or, Bool.or_eq_true, WNx_bt hG s (by omega)]
    constructor
    · rintro ((h | ⟨t, h1, h2⟩) | h)
      · exact Or.inl h
      · exact Or.inr ⟨t, by omega, h2⟩
      · by_cases q : edg a b s &&& R = 0
        · rw [if_pos q, b_0] at h; cases h
        · rw [if_neg q] at h
          exact Or.inr ⟨s, by omega, Classical.byContradiction (fun z => q ((edg_and hG (by omega)).mpr z)), (edg_bt hG (by omega)).mp h⟩
    · rintro (h | ⟨t, h1, h2, h3⟩)
      · exact Or.inl (Or.inl h)
      · by_cases q : t = s
        · subst q
          refine Or.inr ?_
          rw [if_neg (fun z => (edg_and hG (by omega)).mp z h2)]
          exact (edg_bt hG (by omega)).mpr h3
        · exact Or.inl (Or.inr ⟨t, by omega, h2, h3⟩)
theorem WN_in {R : Int32} (hG : GR n k a b) (hR : inN n R) : inN n (WNx a b R k) := fun v hv => by
  rcases (WNx_bt hG k (Nat.le_refl k)).mp hv with h | ⟨t, h1, _, h2⟩
  · exact hR v h
  · rcases h2 with rfl | rfl
    · exact (hG.2.2 t h1).1
    · exact (hG.2.2 t h1).2.1
theorem c_wn {R : Int32} (hG : GR n k a b) (he : ∀ s, s < k → ends s = edg a b s) (hN : 40 ≤ N) : fX1_withNeighbours N (nI n) (nI k) br so lo ends R = some (WNx a b R k) := by
  have hk := hG.2.1
  unfold fX1_withNeighbours
  refine it2_go (n := k) (fun i X => X = WNx a b R i) (fun X => some X) ?_ ?_ rfl (by omega) (fun y hy => by rw [hy])
  · intro f X hX
    show (if nI k ≤ nI k then _ else _) = _
    rw [if_pos (nI_le (Nat.le_refl k) (by omega))]
  · intro f i X hi hX
    show ∃ y, _ ∧ (if nI k ≤ nI i then _ else _) = _
    rw [if_neg (nI_gt hi (by omega)), gin_ok (by omega) (by omega), nI_j (by omega), nI_1, he i hi]
    by_cases q : edg a b i &&& R = 0
    · rw [if_pos q]
      exact ⟨_, by rw [WNx, if_pos q, ← hX], rfl⟩
    · rw [if_neg q, gin_ok (by omega) (by omega)]
      exact ⟨_, by rw [WNx, if_neg q, ← hX], rfl⟩
/-- what i open switches at most lead to -/
noncomputable def RR (k : Nat) (a b : Nat → Nat) (c : Int32) (p : Nat) : Nat → Int32
  | 0 => CL k a b c ((1 : Int32) <<< (nI p &&& 31))
  | i + 1 => CL k a b c (WNx a b (RR k a b c p i) k)
theorem RR_in (hG : GR n k a b) (hp : p < n) : ∀ i, inN n (RR k a b c p i)
  | 0 => CL_in hG (q_bitN hG.1 hp)
  | i + 1 => CL_in hG (WN_in hG (RR_in hG hp i))
theorem RR_cl (hG : GR n k a b) (hp : p < n) {u v : Nat} (hc : cn k a b c u v) : ∀ i, bt (RR k a b c p i) u = true → bt (RR k a b c p i) v = true
  | 0, h => by
    obtain ⟨x, h1, h2⟩ := (CL_bt hG (q_bitN hG.1 hp)).mp h
    exact (CL_bt hG (q_bitN hG.1 hp)).mpr ⟨x, h1, h2.tr hc⟩
  | i + 1, h => by
    obtain ⟨x, h1, h2⟩ := (CL_bt hG (WN_in hG (RR_in hG hp i))).mp h
    exact (CL_bt hG (WN_in hG (RR_in hG hp i))).mpr ⟨x, h1, h2.tr hc⟩
theorem RR_up (hG : GR n k a b) (hp : p < n) {i v : Nat} (h : bt (RR k a b c p i) v = true) : bt (RR k a b c p (i + 1)) v = true :=
  (CL_bt hG (WN_in hG (RR_in hG hp i))).mpr ⟨v, (WNx_bt hG k (Nat.le_refl k)).mpr (Or.inl h), cn.rf⟩
theorem RR_ed (hG : GR n k a b) (hp : p < n) {i s : Nat} (hs : s < k) (h : bt (RR k a b c p i) (a s) = true ∨ bt (RR k a b c p i) (b s) = true) : bt (RR k a b c p (i + 1)) (a s) = true ∧ bt (RR k a b c p (i + 1)) (b s) = true :=
  ⟨(CL_bt hG (WN_in hG (RR_in hG hp i))).mpr ⟨a s, (WNx_bt hG k (Nat.le_refl k)).mpr (Or.inr ⟨s, hs, h, Or.inl rfl⟩), cn.rf⟩, (CL_bt hG (WN_in hG (RR_in hG hp i))).mpr ⟨b s, (WNx_bt hG k (Nat.le_refl k)).mpr (Or.inr ⟨s, hs, h, Or.inr rfl⟩), cn.rf⟩⟩
theorem RR_le (hG : GR n k a b) (hp : p < n) {i j v : Nat} (hij : i ≤ j) (h : bt (RR k a b c p i) v = true) : bt (RR k a b c p j) v = true := by
  induction j with
  | zero => rw [Nat.le_zero.mp hij] at h; exact h
  | succ j ih =>
    by_cases q : i = j + 1
    · rw [q] at h; exact h
    · exact RR_up hG hp (ih (by omega))
/-- n steps reach what can be reached -/
theorem RR_fin (hG : GR n k a b) (hp : p < n) {m v : Nat} (h : bt (RR k a b c p m) v = true) : ∃ j, j < n ∧ bt (RR k a b c p j) v = true := by
  have st : ∀ j, RR k a b c p (j + 1) = RR k a b c p j → ∀ d, RR k a b c p (j + d) = RR k a b c p j := fun j hj d => by
    induction d with
    | zero => rfl
    | succ d ih =>
      show CL k a b c (WNx a b (RR k a b c p (j + d)) k) = _
      rw [ih]
      exact hj
  have cnt : ∀ i, i + 1 ≤ ctN (bt (RR k a b c p i)) n ∨ ∃ j, j < i ∧ RR k a b c p (j + 1) = RR k a b c p j := fun i => by
    induction i with
    | zero =>
      refine Or.inl ?_
      have : bt (RR k a b c p 0) p = true := (CL_bt hG (q_bitN hG.1 hp)).mpr ⟨p, (q_bitT (by have := hG.1; omega)).mpr rfl, cn.rf⟩
      exact ctN_pos this n hp
    | succ i ih =>
      rcases ih with z | ⟨j, h1, h2⟩
      · by_cases q : RR k a b c p (i + 1) = RR k a b c p i
        · exact Or.inr ⟨i, by omega, q⟩
        · have : ∃ x, ¬ bt (RR k a b c p i) x = true ∧ bt (RR k a b c p (i + 1)) x = true :=
            Classical.byContradiction (fun y => q (q_eq.mpr (fun x => ⟨fun hx => Classical.byContradiction (fun hy => y ⟨x, hy, hx⟩), RR_up hG hp⟩)))
          obtain ⟨x, h1, h2⟩ := this
          have := ctN_lt (p := bt (RR k a b c p i)) (fun y => RR_up hG hp) h1 h2 n (RR_in hG hp _ x h2)
          exact Or.inl (by omega)
      · exact Or.inr ⟨j, by omega, h2⟩
  rcases cnt n with z | ⟨j, h1, h2⟩
  · have := ctN_le (bt (RR k a b c p n)) n
    omega
  · by_cases q : m < n
    · exact ⟨m, q, h⟩
    · refine ⟨j, h1, ?_⟩
      rw [← st j h2 (m - j), Nat.add_sub_cancel' (by omega)]
      exact h
/-- the program's search -/
theorem c_tol {br so lo te : Int32} (hG : GR n k a b) (he : ∀ s, s < k → ends s = edg a b s) (hp : p < n) (hN : 40 ≤ N) :
    (∃ i0, i0 < n ∧ ¬ RR k a b c p i0 &&& o = 0 ∧ (∀ j, j < i0 → RR k a b c p j &&& o = 0) ∧ fX4_toLive N (nI n) (nI k) br so lo ends c te o (nI p) = some (.inr (nI i0))) ∨
    ((∀ j, j < n → RR k a b c p j &&& o = 0) ∧ fX4_toLive N (nI n) (nI k) br so lo ends c te o (nI p) = some (.inl "java/util/NoSuchElementException")) := by
  have hn := hG.1
  have e0 : fX4_requireNode N (nI n) (nI k) br so lo (nI p) = some (.inr ()) := by
    unfold fX4_requireNode
    rw [c_hasNode (by omega), bd1_ok, bI_1 ⟨p, hp, rfl⟩, if_neg (by decide)]
  unfold fX4_toLive fX1_nodeCount
  rw [e0, p_cw hG he (q_bitN hn hp) hN, bd1_ok]
  show (∃ i0, _ ∧ _ ∧ _ ∧ it2 _ N 0 _ = _) ∨ (_ ∧ it2 _ N 0 _ = _)
  generalize hF : (fun (g22_7 : Int32 → Int32 → Option (String ⊕ Int32)) (x5 x6 : Int32) => _) = F
  have sF : ∀ G x5 x6, F G x5 x6 = (if nI n ≤ x5 then some (.inl "java/util/NoSuchElementException") else (if (x6 &&& o) = 0 then bd1 (fX1_withNeighbours N (nI n) (nI k) br so lo ends x6) (fun v13 => bd1 (fX1_connectedWith N (nI n) (nI k) br so lo ends c te o v13) (fun v15 => G (x5 + 1) v15)) else some (.inr x5))) := by
    subst hF; intros; rfl
  have lp : ∀ M i, i ≤ n → n - i < M → (∀ j, j < i → RR k a b c p j &&& o = 0) →
      (∃ i0, i0 < n ∧ ¬ RR k a b c p i0 &&& o = 0 ∧ (∀ j, j < i0 → RR k a b c p j &&& o = 0) ∧ it2 F M (nI i) (RR k a b c p i) = some (.inr (nI i0))) ∨
      ((∀ j, j < n → RR k a b c p j &&& o = 0) ∧ it2 F M (nI i) (RR k a b c p i) = some (.inl "java/util/NoSuchElementException")) := by
    intro M
    induction M with
    | zero => intro i _ h; exact absurd h (Nat.not_lt_zero _)
    | succ M ih =>
      intro i hi hM h0
      rw [it2, sF]
      rcases Nat.lt_or_ge i n with q | q
      · rw [if_neg (nI_gt q (by omega))]
        by_cases z : RR k a b c p i &&& o = 0
        · rw [if_pos z, c_wn hG he hN, bd1_ok, p_cw hG he (WN_in hG (RR_in hG hp i)) hN, bd1_ok, nI_1]
          exact ih (i + 1) q (by omega) (fun j hj => by
            by_cases y : j = i
            · rw [y]; exact z
            · exact h0 j (by omega))
        · rw [if_neg z]
          exact Or.inl ⟨i, q, z, h0, rfl⟩
      · have : i = n := by omega
        subst this
        rw [if_pos (nI_le (Nat.le_refl _) (by omega))]
        exact Or.inr ⟨h0, rfl⟩
  have := lp N 0 (Nat.zero_le _) (by omega) (fun j hj => absurd hj (Nat.not_lt_zero j))
  rw [nI_0] at this
  exact this
end LIV

