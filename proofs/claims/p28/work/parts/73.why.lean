/-! permits: what is held -/
def orF (f : Nat → Int32) : Nat → Int32
  | 0 => 0
  | i + 1 => orF f i ||| f i
theorem orF_bt {f : Nat → Int32} {v : Nat} : ∀ g, bt (orF f g) v = true ↔ ∃ p, p < g ∧ bt (f p) v = true
  | 0 => by
    rw [orF, b_0]
    exact ⟨fun h => (by cases h), fun ⟨p, h, _⟩ => absurd h (Nat.not_lt_zero p)⟩
  | g + 1 => by
    rw [orF, b_or, Bool.or_eq_true, orF_bt g]
    constructor
    · rintro (⟨p, h1, h2⟩ | h)
      · exact ⟨p, by omega, h2⟩
      · exact ⟨g, by omega, h⟩
    · intro ⟨p, h1, h2⟩
      by_cases e : p = g
      · subst e; exact Or.inr h2
      · exact Or.inl ⟨p, by omega, h2⟩
theorem orF_c {f h : Nat → Int32} : ∀ g, (∀ p, p < g → f p = h p) → orF f g = orF h g
  | 0, _ => rfl
  | g + 1, e => by rw [orF, orF, orF_c g (fun p hp => e p (by omega)), e g (by omega)]
def hmM (mho mih : Nat → Int32) (p : Nat) : Int32 := if mih p = 0 then 0 else mho p
theorem c_held {N g : Nat} {hol : Nat → Int32} (hg : g ≤ 10) (hN : 40 ≤ N) : fX2_heldNodes N (nI g) hol = some (orF hol g) := by
  unfold fX2_heldNodes
  refine it2_go (n := g) (fun i X => X = orF hol i) (fun X => some X) ?_ ?_ rfl (by omega) (fun y hy => by rw [hy])
  · intro f X hX
    show (if nI g ≤ nI g then _ else _) = _
    rw [if_pos (nI_le (Nat.le_refl g) (by omega))]
  · intro f i X hi hX
    show ∃ y, _ ∧ (if nI g ≤ nI i then _ else _) = _
    rw [if_neg (nI_gt hi (by omega)), gin_ok (by omega) (by omega), nI_j (by omega), nI_1]
    exact ⟨_, by rw [orF, ← hX], rfl⟩
/-! the state behind an act of the kind q on w; whether it may be asked (ready); what it touches -/
def flC (q : Nat) (c : Int32) (w : Nat) : Int32 := if q < 2 then c ^^^ ((1 : Int32) <<< (nI w &&& 31)) else c
def flE (q : Nat) (e : Int32) (w : Nat) : Int32 := if q = 2 ∨ q = 3 then e ^^^ ((1 : Int32) <<< (nI w &&& 31)) else e
def flO (q : Nat) (o : Int32) (w : Nat) : Int32 := if 4 ≤ q then o ^^^ ((1 : Int32) <<< (nI w &&& 31)) else o
def RDY (so c e o : Int32) (q w : Nat) : Prop := if q = 0 then bt c w = true else if q = 1 then ¬ bt c w = true else if q = 2 then ¬ bt e w = true else if q = 3 then bt e w = true else if q = 4 then bt so w = true ∧ ¬ bt o w = true else bt so w = true ∧ bt o w = true
def tch (a b : Nat → Nat) (q w : Nat) : Int32 := if q < 2 then edg a b w else (1 : Int32) <<< (nI w &&& 31)
theorem six {q : Nat} (h : q ≤ 5) : q = 0 ∨ q = 1 ∨ q = 2 ∨ q = 3 ∨ q = 4 ∨ q = 5 := by omega
theorem k0 : nI 0 = 0 := rfl
theorem k1 : nI 1 = 1 := rfl
theorem k2 : nI 2 = 2 := rfl
theorem k3 : nI 3 = 3 := rfl
theorem k4 : nI 4 = 4 := rfl
theorem k5 : nI 5 = 5 := rfl
theorem c_flip {N q w : Nat} {c e o : Int32} (hq : q ≤ 5) : fX3_flip N c e o (nI q) (nI w) = some (flC q c w, flE q e w, flO q o w) := by
  rcases six hq with rfl | rfl | rfl | rfl | rfl | rfl <;> simp [fX3_flip, flC, flE, flO, k0, k1, k2, k3, k4, k5]
theorem clr {c : Int32} {w : Nat} (hw : w < 32) (h : bt c w = true) : c &&& (((1 : Int32) <<< (nI w &&& 31)) ^^^ (-1)) = c ^^^ ((1 : Int32) <<< (nI w &&& 31)) := by
  refine b_ext (fun i hi => ?_)
  rw [b_and, q_not hi, b_xor, q_bit hw]
  by_cases e : i = w
  · subst e; simp [h]
  · simp [e]
theorem sett {c : Int32} {w : Nat} (hw : w < 32) (h : ¬ bt c w = true) : c ||| ((1 : Int32) <<< (nI w &&& 31)) = c ^^^ ((1 : Int32) <<< (nI w &&& 31)) := by
  refine b_ext (fun i hi => ?_)
  rw [b_or, b_xor, q_bit hw]
  by_cases e : i = w
  · subst e; simp [bF.mp h]
  · simp [e]
theorem tst0 {x : Int32} {w : Nat} (hw : w < 32) : (if (x >>> (nI w &&& 31)) &&& 1 = 0 then (some 0 : Option Int32) else some 1) = some (bI (bt x w = true)) := ite_01 (by rw [q_t0 hw, bF])
theorem c_ready {N q w : Nat} {nc sc br so lo c e o : Int32} (hq : q ≤ 5) (hw : w < 32) (hos : ∀ v, bt o v = true → bt so v = true) : fX4_isAlreadySo N nc sc br so lo c e o (nI q) (nI w) = some (bI (¬ RDY so c e o q w)) := by
  unfold fX4_isAlreadySo fX1_hasSource fX3_isOn fX4_turnsOn
  simp only [jn1, tst0 hw, bd1_ok]
  rcases six hq with rfl | rfl | rfl | rfl | rfl | rfl
  · by_cases h : bt c w = true <;> simp [RDY, k0, bd1_ok, h, bI_1, bI_0, bI]
  · by_cases h : bt c w = true <;> simp [RDY, k1, bd1_ok, h, bI_1, bI_0, bI]
  · by_cases h : bt e w = true <;> simp [RDY, k2, bd1_ok, h, bI_1, bI_0, bI]
  · by_cases h : bt e w = true <;> simp [RDY, k3, bd1_ok, h, bI_1, bI_0, bI]
  · by_cases h : bt so w = true <;> by_cases h2 : bt o w = true <;> simp [RDY, k4, bd1_ok, h, h2, bI_1, bI_0, bI]
  · by_cases h2 : bt o w = true
    · have h := hos w h2
      simp [RDY, k5, bd1_ok, h, h2, bI_1, bI_0, bI]
    · by_cases h : bt so w = true <;> simp [RDY, k5, bd1_ok, h, h2, bI_1, bI_0, bI]
theorem c_touch {N n k q w : Nat} {a b : Nat → Nat} {ends : Nat → Int32} {nc sc br so lo : Int32} (hG : GR n k a b) (he : ∀ s, s < k → ends s = edg a b s) (hq : q ≤ 5) (hw : q < 2 → w < k) : fX4_touchedNodes N nc sc br so lo ends (nI q) (nI w) = some (tch a b q w) := by
  unfold fX4_touchedNodes fX4_isOfSwitch
  rcases six hq with rfl | rfl | rfl | rfl | rfl | rfl
  · simp [tch, k0, bd1_ok, c_endsOf hG he (hw (by omega))]
  · simp [tch, k1, bd1_ok, c_endsOf hG he (hw (by omega))]
  · simp [tch, k2, bd1_ok]
  · simp [tch, k3, bd1_ok]
  · simp [tch, k4, bd1_ok]
  · simp [tch, k5, bd1_ok]
/-! whether what is held is safe -/
def SFE (k : Nat) (a b : Nat → Nat) (c e o h : Int32) : Prop := ∀ v, bt h v = true → bt (CL k a b c e) v = true ∧ ¬ bt (CL k a b c o) v = true
theorem c_safe {N n k : Nat} {a b : Nat → Nat} {ends : Nat → Int32} {br so lo c e o h : Int32} (hG : GR n k a b) (he : ∀ s, s < k → ends s = edg a b s) (hie : inN n e) (hio : inN n o) (hN : 40 ≤ N) : fX4_areSafe N (nI n) (nI k) br so lo ends c e o h = some (bI (SFE k a b c e o h)) := by
  unfold fX4_areSafe
  rw [c_earthed hG he hie hN, bd1_ok]
  have h1 : h &&& (CL k a b c e ^^^ (-1)) = 0 ↔ ∀ v, bt h v = true → bt (CL k a b c e) v = true := by
    rw [q_and0]
    constructor
    · intro z v hv
      have z2 := z v hv
      rw [q_not (b_lt hv)] at z2
      cases q : bt (CL k a b c e) v
      · rw [q] at z2; exact (z2 rfl).elim
      · rfl
    · intro z v hv hn
      rw [q_not (b_lt hv), z v hv] at hn
      cases hn
  have h2 : h &&& CL k a b c o = 0 ↔ ∀ v, bt h v = true → ¬ bt (CL k a b c o) v = true := by
    rw [q_and0]
  by_cases q : ∀ v, bt h v = true → bt (CL k a b c e) v = true
  · rw [if_pos (h1.mpr q), c_live hG he hio hN, bd1_ok]
    exact ite_10 (by
      rw [h2]
      exact ⟨fun z v hv => ⟨q v hv, z v hv⟩, fun z v hv => (z v hv).2⟩)
  · rw [if_neg (fun z => q (h1.mp z)), bI_0 (fun z => q (fun v hv => (z v hv).1))]
