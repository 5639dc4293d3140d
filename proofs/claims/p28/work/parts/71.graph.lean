/-! which nodes are connected -/
def cn (k : Nat) (a b : Nat → Nat) (c : Int32) (u v : Nat) : Prop := ∀ P : Nat → Prop, (∀ s, s < k → bt c s = true → (P (a s) ↔ P (b s))) → (P u ↔ P v)
theorem cn.rf {k : Nat} {a b : Nat → Nat} {c : Int32} {u : Nat} : cn k a b c u u := fun _ _ => Iff.rfl
theorem cn.sm {k : Nat} {a b : Nat → Nat} {c : Int32} {u v : Nat} (h : cn k a b c u v) : cn k a b c v u := fun P hP => (h P hP).symm
theorem cn.tr {k : Nat} {a b : Nat → Nat} {c : Int32} {u v w : Nat} (h1 : cn k a b c u v) (h2 : cn k a b c v w) : cn k a b c u w := fun P hP => (h1 P hP).trans (h2 P hP)
theorem cn.ed {k : Nat} {a b : Nat → Nat} {c : Int32} {s : Nat} (hs : s < k) (hc : bt c s = true) : cn k a b c (a s) (b s) := fun P hP => hP s hs hc
def GR (n k : Nat) (a b : Nat → Nat) : Prop := n ≤ 16 ∧ k ≤ 24 ∧ ∀ s, s < k → a s < n ∧ b s < n ∧ a s ≠ b s
theorem cn.lt {n k : Nat} {a b : Nat → Nat} {c : Int32} {u v : Nat} (hG : GR n k a b) (h : cn k a b c u v) (hu : u < n) : v < n := (h (fun x => x < n) (fun s hs _ => ⟨fun _ => (hG.2.2 s hs).2.1, fun _ => (hG.2.2 s hs).1⟩)).mp hu
def edg (a b : Nat → Nat) (s : Nat) : Int32 := ((1 : Int32) <<< (nI (a s) &&& 31)) ||| ((1 : Int32) <<< (nI (b s) &&& 31))
theorem edg_bt {n k : Nat} {a b : Nat → Nat} {s : Nat} (hG : GR n k a b) (hs : s < k) {i : Nat} : bt (edg a b s) i = true ↔ i = a s ∨ i = b s := by
  have h := hG.2.2 s hs
  have h1 := hG.1
  unfold edg
  rw [b_or, q_bit (by omega), q_bit (by omega)]
  simp
def inN (n : Nat) (S : Int32) : Prop := ∀ v, bt S v = true → v < n
noncomputable def CL (k : Nat) (a b : Nat → Nat) (c S : Int32) : Int32 := mkS (fun v => @decide (∃ u, bt S u = true ∧ cn k a b c u v) (Classical.propDecidable _)) 32
theorem CL_bt {n k : Nat} {a b : Nat → Nat} {c S : Int32} (hG : GR n k a b) (hS : inN n S) {v : Nat} : bt (CL k a b c S) v = true ↔ ∃ u, bt S u = true ∧ cn k a b c u v := by
  unfold CL
  rw [mkS_bt _ 32 (Nat.le_refl _), Bool.and_eq_true, decide_eq_true_eq, @decide_eq_true_iff _ (Classical.propDecidable _)]
  constructor
  · exact fun h => h.2
  · intro h
    refine ⟨?_, h⟩
    obtain ⟨u, h1, h2⟩ := h
    have h3 := h2.lt hG (hS u h1)
    have h4 := hG.1
    omega
theorem CL_in {n k : Nat} {a b : Nat → Nat} {c S : Int32} (hG : GR n k a b) (hS : inN n S) : inN n (CL k a b c S) := fun v h => by
  obtain ⟨u, h1, h2⟩ := (CL_bt hG hS).mp h
  exact h2.lt hG (hS u h1)
theorem CL_eq {n k : Nat} {a b : Nat → Nat} {c S R : Int32} (hG : GR n k a b) (hS : inN n S) (h0 : ∀ v, bt S v = true → bt R v = true) (h1 : ∀ v, bt R v = true → ∃ u, bt S u = true ∧ cn k a b c u v)
    (h2 : ∀ s, s < k → bt c s = true → (bt R (a s) = true ↔ bt R (b s) = true)) : R = CL k a b c S := by
  refine q_eq.mpr (fun v => ?_)
  rw [CL_bt hG hS]
  constructor
  · exact h1 v
  · intro ⟨u, hu, hc⟩
    exact (hc (fun x => bt R x = true) h2).mp (h0 u hu)
/-- one sweep over the switches, from R0, s of them done -/
def SW (k : Nat) (a b : Nat → Nat) (c R0 : Int32) (s : Nat) (R : Int32) : Prop := (∀ v, bt R0 v = true → bt R v = true) ∧ (∀ v, bt R v = true → ∃ u, bt R0 u = true ∧ cn k a b c u v) ∧ (R = R0 → ∀ t, t < s → bt c t = true → (bt R0 (a t) = true ↔ bt R0 (b t) = true))
theorem SW_0 {k : Nat} {a b : Nat → Nat} {c R0 : Int32} : SW k a b c R0 0 R0 := ⟨fun _ h => h, fun v h => ⟨v, h, cn.rf⟩, fun _ t ht => absurd ht (Nat.not_lt_zero t)⟩
theorem SW_skip {k : Nat} {a b : Nat → Nat} {c R0 R : Int32} {s : Nat} (h : SW k a b c R0 s R) (hno : bt c s = true → ¬ (bt R (a s) = true ∨ bt R (b s) = true)) : SW k a b c R0 (s + 1) R := by
  refine ⟨h.1, h.2.1, fun e t ht hc => ?_⟩
  by_cases q : t = s
  · subst q
    have h1 := hno hc
    rw [e] at h1
    exact ⟨fun z => (h1 (Or.inl z)).elim, fun z => (h1 (Or.inr z)).elim⟩
  · exact h.2.2 e t (by omega) hc
theorem SW_take {n k : Nat} {a b : Nat → Nat} {c R0 R : Int32} {s : Nat} (hG : GR n k a b) (h : SW k a b c R0 s R) (hs : s < k) (hc : bt c s = true) (hm : bt R (a s) = true ∨ bt R (b s) = true) : SW k a b c R0 (s + 1) (R ||| edg a b s) := by
  have hin : ∀ v, bt (R ||| edg a b s) v = true ↔ bt R v = true ∨ v = a s ∨ v = b s := fun v => by rw [b_or, Bool.or_eq_true, edg_bt hG hs]
  have hab : cn k a b c (a s) (b s) := cn.ed hs hc
  refine ⟨fun v hv => (hin v).mpr (Or.inl (h.1 v hv)), fun v hv => ?_, fun e t ht hct => ?_⟩
  · rcases (hin v).mp hv with q | q | q
    · exact h.2.1 v q
    · subst q
      rcases hm with z | z
      · exact h.2.1 _ z
      · obtain ⟨u, h1, h2⟩ := h.2.1 _ z
        exact ⟨u, h1, h2.tr hab.sm⟩
    · subst q
      rcases hm with z | z
      · obtain ⟨u, h1, h2⟩ := h.2.1 _ z
        exact ⟨u, h1, h2.tr hab⟩
      · exact h.2.1 _ z
  · have hR : R = R0 := q_eq.mpr (fun v => ⟨fun q => by rw [← e]; exact (hin v).mpr (Or.inl q), h.1 v⟩)
    by_cases q : t = s
    · subst q
      have h1 : bt R0 (a t) = true := by rw [← e]; exact (hin _).mpr (Or.inr (Or.inl rfl))
      have h2 : bt R0 (b t) = true := by rw [← e]; exact (hin _).mpr (Or.inr (Or.inr rfl))
      exact ⟨fun _ => h2, fun _ => h1⟩
    · exact h.2.2 hR t (by omega) hct
theorem or0 (x : Int32) : x ||| 0 = x := b_ext (fun i _ => by rw [b_or, b_0, Bool.or_false])
/-- what a sweep that changes something adds -/
theorem SW_more {n k : Nat} {a b : Nat → Nat} {c R0 R : Int32} {s : Nat} (hG : GR n k a b) (hR0 : inN n R0) (h : SW k a b c R0 s R) (hne : ¬ R = R0) : ctN (bt R0) n < ctN (bt R) n := by
  have : ∃ j, ¬ bt R0 j = true ∧ bt R j = true := by
    refine Classical.byContradiction (fun q => hne (q_eq.mpr (fun v => ⟨fun z => ?_, h.1 v⟩)))
    exact Classical.byContradiction (fun y => q ⟨v, y, z⟩)
  obtain ⟨j, h1, h2⟩ := this
  obtain ⟨u, h3, h4⟩ := h.2.1 j h2
  exact ctN_lt h.1 h1 h2 n (h4.lt hG (hR0 u h3))
theorem SW_in {n k : Nat} {a b : Nat → Nat} {c R0 R : Int32} {s : Nat} (hG : GR n k a b) (hR0 : inN n R0) (h : SW k a b c R0 s R) : inN n R := fun v hv => by
  obtain ⟨u, h3, h4⟩ := h.2.1 v hv
  exact h4.lt hG (hR0 u h3)
theorem nI_gt {i n : Nat} (h : i < n) (hn : n < 2 ^ 31) : ¬ nI n ≤ nI i := nI_ge h hn
set_option maxHeartbeats 1000000 in
/-- Net.connectedWith -/
theorem p_cw {n k : Nat} {a b : Nat → Nat} {br so lo c te tn S : Int32} {ends : Nat → Int32} {N : Nat} (hG : GR n k a b) (he : ∀ s, s < k → ends s = edg a b s) (hS : inN n S) (hN : 40 ≤ N) :
    fX1_connectedWith N (nI n) (nI k) br so lo ends c te tn S = some (CL k a b c S) := by
  have hn := hG.1
  have hk := hG.2.1
  unfold fX1_connectedWith
  generalize hF : (fun (g5_3 : Int32 → Int32 → Option Int32) (x1 : Int32) (x2 : Int32) => _) = F
  have key : ∀ (M r : Nat) (R : Int32), r ≤ n → n - r < M → (∀ v, bt S v = true → bt R v = true) → (∀ v, bt R v = true → ∃ u, bt S u = true ∧ cn k a b c u v) → (r + 1 ≤ ctN (bt R) n ∨ (R = S ∧ r = 0)) → it2 F M (nI r) R = some (CL k a b c S) := by
    intro M
    induction M with
    | zero => intro r R _ h; exact absurd h (Nat.not_lt_zero _)
    | succ M ih =>
      intro r R hr hM h0 h1 h2
      have hR : inN n R := fun v hv => by
        obtain ⟨u, h3, h4⟩ := h1 v hv
        exact h4.lt hG (hS u h3)
      rw [it2, ← hF]
      show (if nI n ≤ nI r then some R else _) = _
      rcases Nat.lt_or_ge r n with q | q
      · rw [if_neg (nI_gt q (by omega))]
        refine it2_go (n := k) (fun s X => SW k a b c R s X) (fun X => if X = R then some X else it2 F M (nI r + 1) X) ?_ ?_ SW_0 (by omega) ?_
        · intro g X hX
          show (if nI k ≤ nI k then _ else _) = _
          rw [if_pos (nI_le (Nat.le_refl k) (by omega)), hF]
        · intro g s X hs hX
          show ∃ y, _ ∧ (if nI k ≤ nI s then _ else _) = _
          rw [if_neg (nI_gt hs (by omega)), nI_1]
          simp only [jn1]
          by_cases hc : bt c s = true
          · rw [if_neg (fun z => by rw [q_t0 (by omega), hc] at z; cases z)]
            show ∃ y, _ ∧ (if (1 : Int32) = 0 then _ else _) = _
            rw [if_neg (by decide), gin_ok (by omega) (by omega), nI_j (by omega), he s hs]
            by_cases hm : bt X (a s) = true ∨ bt X (b s) = true
            · refine ⟨X ||| edg a b s, SW_take hG hX hs hc hm, ?_⟩
              have hne : ¬ edg a b s &&& X = 0 := q_andN.mpr (by
                rcases hm with z | z
                · exact ⟨_, (edg_bt hG hs).mpr (Or.inl rfl), z⟩
                · exact ⟨_, (edg_bt hG hs).mpr (Or.inr rfl), z⟩)
              rw [if_neg hne, gin_ok (by omega) (by omega)]
            · refine ⟨X, SW_skip hX (fun _ => hm), ?_⟩
              have hz : edg a b s &&& X = 0 := q_and0.mpr (fun i h3 h4 => hm (by
                rcases (edg_bt hG hs).mp h3 with z | z
                · rw [z] at h4; exact Or.inl h4
                · rw [z] at h4; exact Or.inr h4))
              rw [if_pos hz, or0]
          · have hc0 : bt c s = false := by cases z : bt c s <;> simp_all
            rw [if_pos ((q_t0 (by omega)).mpr hc0)]
            refine ⟨X, SW_skip hX (fun z => absurd z hc), ?_⟩
            simp [or0]
        intro R' hR'
        by_cases hE : R' = R
        · rw [if_pos hE]
          subst hE
          exact congrArg some (CL_eq hG hS h0 h1 (fun s hs hc => hR'.2.2 rfl s hs hc))
        · rw [if_neg hE, nI_1]
          have hlt := SW_more hG hR hR' hE
          refine ih (r + 1) R' q (by omega) (fun v hv => hR'.1 v (h0 v hv)) (fun v hv => ?_) (Or.inl ?_)
          · obtain ⟨u, h3, h4⟩ := hR'.2.1 v hv
            obtain ⟨w, h5, h6⟩ := h1 u h3
            exact ⟨w, h5, h6.tr h4⟩
          · rcases h2 with z | ⟨z1, z2⟩
            · omega
            · have : ∃ j, bt R' j = true := by
                refine Classical.byContradiction (fun y => hE (q_eq.mpr (fun v => ⟨fun z => (y ⟨v, z⟩).elim, fun z => hR'.1 v z⟩)))
              obtain ⟨j, hj⟩ := this
              obtain ⟨u, h3, h4⟩ := hR'.2.1 j hj
              have := ctN_pos (p := bt R) h3 n (hR u h3)
              omega
      · have hrn : r = n := by omega
        subst hrn
        rw [if_pos (nI_le (Nat.le_refl _) (by omega))]
        rcases h2 with z | ⟨z1, z2⟩
        · have := ctN_le (bt R) r
          omega
        · subst z2
          refine congrArg some (CL_eq hG hS h0 h1 (fun s hs _ => ?_))
          exact absurd (hG.2.2 s hs).1 (Nat.not_lt_zero _)
  have := key N 0 S (Nat.zero_le _) (by omega) (fun _ h => h) (fun v h => ⟨v, h, cn.rf⟩) (Or.inr ⟨rfl, rfl⟩)
  rw [nI_0] at this
  exact this
theorem q_bitN {n p : Nat} (hn : n ≤ 16) (hp : p < n) : inN n ((1 : Int32) <<< (nI p &&& 31)) := fun v h => by
  have := (q_bitT (k := p) (i := v) (by omega)).mp h
  omega
