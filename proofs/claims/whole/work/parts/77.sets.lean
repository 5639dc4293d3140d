/-! sets that are answered -/
section SETS
variable {n k : Nat} {a b : Nat → Nat} {ends one oth isb : Nat → Int32} {br so lo c e o : Int32} {N g : Nat} {hol mho mih : Nat → Int32}
theorem mkS_all {S : Int32} (hS : inN n S) (hn : n ≤ 16) : mkS (bt S) n = S := by
  refine b_ext (fun i _ => ?_)
  rw [mkS_bt _ n (by omega)]
  cases h : bt S i
  · simp
  · simp [hS i h]
theorem m_set {f : Int32 → Option Int32} {S : Int32} (hn : n ≤ 16) (hS : inN n S) (hN : 40 ≤ N) (hf : ∀ p, p < n → f (nI p) = some (bI (bt S p = true))) :
    it2 (fun (g9 : Int32 → Int32 → Option (Int32 × Int32)) (x1 : Int32) (x2 : Int32) => (if nI n ≤ x1 then some (x2, 0) else bd1 (f x1) (fun (v6 : Int32) => (if v6 = 0 then g9 (x1 + 1) (x2 ||| 0) else g9 (x1 + 1) (x2 ||| ((1 : Int32) <<< (x1 &&& 31))))))) N 0 0 = some (S, 0) := by
  refine it2_go (n := n) (fun i X => X = mkS (bt S) i) (fun X => some (X, 0)) ?_ ?_ rfl (by omega) (fun y hy => by rw [hy, mkS_all hS hn])
  · intro f X hX
    show (if nI n ≤ nI n then _ else _) = _
    rw [if_pos (nI_le (Nat.le_refl n) (by omega))]
  · intro f' i X hi hX
    show ∃ y, _ ∧ (if nI n ≤ nI i then _ else _) = _
    rw [if_neg (nI_gt hi (by omega)), hf i hi, bd1_ok, nI_1]
    by_cases h : bt S i = true
    · rw [if_neg (fun z => bI_z.mp z h)]
      exact ⟨_, by rw [mkS, if_pos h, ← hX], rfl⟩
    · rw [if_pos (bI_z.mpr h)]
      exact ⟨_, by rw [mkS, if_neg h, ← hX], rfl⟩
theorem m_liveS {th lg wr pe so' lo' e' : Int32} (hG : GR n k a b) (h1 : ∀ s, s < k → one s = nI (a s)) (h2 : ∀ s, s < k → oth s = nI (b s)) (ho : inN n o) (hN : 40 ≤ N) :
    fX5_live N th (nI n) (nI k) so' lo' c e' o lg wr pe one oth = some (CL k a b c o, 0) := by
  unfold fX5_live
  exact m_set (f := fun x => fX5_isLive N 0 (nI n) (nI k) so' lo' c e' o lg wr pe one oth x c o) hG.1 (CL_in hG ho) hN (fun p hp => m_live hG h1 h2 ho hp hN)
theorem m_earthedS {th lg wr pe so' lo' o' : Int32} (hG : GR n k a b) (h1 : ∀ s, s < k → one s = nI (a s)) (h2 : ∀ s, s < k → oth s = nI (b s)) (he : inN n e) (hN : 40 ≤ N) :
    fX5_earthed N th (nI n) (nI k) so' lo' c e o' lg wr pe one oth = some (CL k a b c e, 0) := by
  unfold fX5_earthed
  exact m_set (f := fun x => fX5_isEarthed N 0 (nI n) (nI k) so' lo' c e o' lg wr pe one oth x c e) hG.1 (CL_in hG he) hN (fun p hp => m_earthed hG h1 h2 he hp hN)
theorem m_loadedS {th lg wr pe so' e' : Int32} (hG : GR n k a b) (h1 : ∀ s, s < k → one s = nI (a s)) (h2 : ∀ s, s < k → oth s = nI (b s)) (ho : inN n o) (hl : inN n lo) (hN : 40 ≤ N) :
    fX5_loaded N th (nI n) (nI k) so' lo c e' o lg wr pe one oth = some (CL k a b c o &&& CL k a b c lo, 0) := by
  unfold fX5_loaded
  refine m_set (f := fun x => fX5_isLoaded N 0 (nI n) (nI k) so' lo c e' o lg wr pe one oth x c) hG.1 (fun v hv => ?_) hN (fun p hp => ?_)
  · rw [b_and, Bool.and_eq_true] at hv
    exact CL_in hG ho v hv.1
  · show fX5_isLoaded N 0 (nI n) (nI k) so' lo c e' o lg wr pe one oth (nI p) c = _
    rw [m_loaded hG h1 h2 ho hl hp hN]
    exact congrArg some (bI_c (by rw [b_and, Bool.and_eq_true]))
/-! permits -/
theorem c_can (hG : GR n k a b) (he : ∀ s, s < k → ends s = edg a b s) (hie : inN n e) (hio : inN n o) (hg : g ≤ 10) (hN : 40 ≤ N) {p : Int32} :
    fX4_canBeHeld N (nI n) (nI k) br so lo ends c e o (nI g) hol p = some (bI (SFE k a b c e o p ∧ p &&& orF hol g = 0)) := by
  unfold fX4_canBeHeld
  rw [c_safe hG he hie hio hN, bd1_ok, c_held hg hN, bd1_ok]
  exact ifp_and (fun _ => ite_10 Iff.rfl)
theorem all_eq : ∀ n, n < 17 → ((1 : Int32) <<< (nI n &&& 31)) - 1 = nI (2 ^ n - 1) := by decide +kernel
theorem bt_nI {j i : Nat} (hi : i < 32) : bt (nI j) i = j.testBit i := by
  unfold bt nI
  rw [Int32.toBitVec_ofNat', BitVec.getLsbD_ofNat]
  simp [hi]
theorem neg_bt {p : Int32} (h : p < 0) : bt p 31 = true := by
  unfold bt
  have : p.toBitVec.msb = true := by
    rw [BitVec.msb_eq_toInt, decide_eq_true_eq]
    exact Int32.lt_iff_toInt_lt.mp h
  rw [BitVec.msb_eq_getLsbD_last] at this
  exact this
theorem rng {p : Int32} (hn : n ≤ 16) : inN n p ↔ ¬ p < 0 ∧ ¬ (((1 : Int32) <<< (nI n &&& 31)) - 1) < p := by
  rw [all_eq n (by omega)]
  have h2 : 2 ^ n < 2 ^ 31 := Nat.pow_lt_pow_right (by omega) (by omega)
  have h3 : 0 < 2 ^ n := Nat.pow_pos (by omega)
  constructor
  · intro h
    have hp : ¬ p < 0 := fun z => by
      have := h 31 (neg_bt z)
      omega
    refine ⟨hp, ?_⟩
    obtain ⟨j, hj, rfl⟩ := nI_of hp
    have : j < 2 ^ n := by
      refine Nat.lt_pow_two_of_testBit j (fun i hi => ?_)
      rcases Nat.lt_or_ge i 32 with q | q
      · rw [← bt_nI q]
        cases z : bt (nI j) i
        · rfl
        · have := h i z
          omega
      · exact Nat.testBit_lt_two_pow (Nat.lt_of_lt_of_le hj (Nat.pow_le_pow_right (by omega) (by omega)))
    exact nI_nlt (by omega) (by omega)
  · rintro ⟨h, h1⟩
    obtain ⟨j, hj, rfl⟩ := nI_of h
    have hj2 : j < 2 ^ n := by
      refine Classical.byContradiction (fun z => h1 (nI_lt (by omega) hj))
    intro i hi
    have i32 := b_lt hi
    rw [bt_nI i32] at hi
    refine Classical.byContradiction (fun z => ?_)
    rw [Nat.testBit_lt_two_pow (Nat.lt_of_lt_of_le hj2 (Nat.pow_le_pow_right (by omega) (by omega)))] at hi
    cases hi
theorem rng2 {p : Int32} (hn : n ≤ 16) : p &&& ((((1 : Int32) <<< (nI n &&& 31)) - 1) ^^^ (-1)) = 0 ↔ inN n p := by
  rw [q_and0]
  constructor
  · intro h v hv
    have v32 := b_lt hv
    refine Classical.byContradiction (fun z => h v hv ?_)
    rw [q_not v32, q_all n (by omega) v v32]
    simp; omega
  · intro h v hv h2
    have v32 := b_lt hv
    have := h v hv
    rw [q_not v32, q_all n (by omega) v v32] at h2
    simp at h2; omega
theorem m_inP {p : Int32} (hn : n ≤ 16) : fX5_in N p 1 (((1 : Int32) <<< (nI n &&& 31)) - 1) = some (bI (¬ p = 0 ∧ inN n p)) := by
  unfold fX5_in
  by_cases h : p < 1
  · rw [if_pos h, bI_0]
    rintro ⟨z, h1⟩
    have h2 := ((rng hn).mp h1).1
    obtain ⟨j, hj, rfl⟩ := nI_of h2
    have := (nI_ltI hj (b := 1) (by omega)).mp h
    exact z (by rw [show j = 0 by omega]; rfl)
  · have hz : ¬ p = 0 := fun z => h (by rw [z]; decide)
    have hp : ¬ p < 0 := fun z => h (by
      rw [Int32.lt_iff_toInt_lt] at z ⊢
      have : (0 : Int32).toInt = 0 := rfl
      have : (1 : Int32).toInt = 1 := rfl
      omega)
    rw [if_neg h]
    exact Classical.byCases (fun z : inN n p => by rw [if_neg ((rng hn).mp z).2, bI_1 ⟨hz, z⟩]) (fun z => by
      rw [bI_0 (fun y => z y.2), if_pos]
      exact Classical.byContradiction (fun y => z ((rng hn).mpr ⟨hp, y⟩)))
theorem nar1 : vp_nar .boolean 1 = 1 := rfl
theorem nar0 : vp_nar .boolean 0 = 0 := rfl
set_option maxHeartbeats 1000000 in
/-- the reference's permit -/
theorem m_permit {th so' lo' lg wr p : Int32} (hG : GR n k a b) (h1 : ∀ s, s < k → one s = nI (a s)) (h2 : ∀ s, s < k → oth s = nI (b s)) (hie : inN n e) (hio : inN n o) (hg : g ≤ 10) (hN : 40 ≤ N) :
    (¬ (¬ p = 0 ∧ inN n p) → fX5_permit N th (nI n) (nI k) so' lo' c e o lg wr (nI g) one oth mho mih p = some (0, 1, mho, nI g, mih)) ∧
    ((¬ p = 0 ∧ inN n p) → ¬ (g < 10 ∧ SFE k a b c e o p ∧ p &&& orF (hmM mho mih) g = 0) → fX5_permit N th (nI n) (nI k) so' lo' c e o lg wr (nI g) one oth mho mih p = some (0, 2, mho, nI g, mih)) ∧
    ((¬ p = 0 ∧ inN n p) → (g < 10 ∧ SFE k a b c e o p ∧ p &&& orF (hmM mho mih) g = 0) → fX5_permit N th (nI n) (nI k) so' lo' c e o lg wr (nI g) one oth mho mih p = some (nI g, 0, upd mho g p, nI (g + 1), upd mih g 1)) := by
  have hn := hG.1
  unfold fX5_permit
  rw [m_inP hn, bd1_ok]
  simp only [jn1, jn2]
  have hge : (10 : Int32) ≤ nI g ↔ ¬ g < 10 := (nI_leI (a := 10) (by omega) (by omega)).trans (by omega)
  by_cases hP : ¬ p = 0 ∧ inN n p
  · refine ⟨fun z => absurd hP z, ?_⟩
    rw [if_neg (fun z => bI_z.mp z hP)]
    -- the loop, from y6
    have key : ∀ (Y : Prop), it2 (fun (g51_11 : Int32 → Int32 → Option (Int32 × Int32 × (Nat → Int32) × Int32 × (Nat → Int32))) (x9 : Int32) (x10 : Int32) => if nI n ≤ x9 then (if (0 : Int32) ≤ 0 then (if x10 = 0 then (if (2 : Int32) ≤ 0 then gin (nI g) 10 (gin (nI g) 10 (some ((nI g + 1) - 1, 2, upd mho (nI g).toNatClampNeg p, nI g + 1, upd mih (nI g).toNatClampNeg (vp_nar .boolean 1)))) else some (0, 2, mho, nI g, mih)) else (if (0 : Int32) ≤ 0 then gin (nI g) 10 (gin (nI g) 10 (some ((nI g + 1) - 1, 0, upd mho (nI g).toNatClampNeg p, nI g + 1, upd mih (nI g).toNatClampNeg (vp_nar .boolean 1)))) else some (0, 0, mho, nI g, mih))) else (if (1 : Int32) ≤ 0 then gin (nI g) 10 (gin (nI g) 10 (some ((nI g + 1) - 1, 1, upd mho (nI g).toNatClampNeg p, nI g + 1, upd mih (nI g).toNatClampNeg (vp_nar .boolean 1)))) else some (0, 1, mho, nI g, mih))) else (if (0 : Int32) = 0 then (if x10 = 0 then g51_11 (x9 + 1) 0 else bd1 (fX5_has N p x9) (fun (v28 : Int32) => (if v28 = 0 then g51_11 (x9 + 1) 1 else bd1 (fX5_isEarthed N 0 (nI n) (nI k) so' lo' c e o lg wr (nI g) one oth x9 c e) (fun (v31 : Int32) => (if v31 = 0 then g51_11 (x9 + 1) 0 else bd1 (fX5_isLive N 0 (nI n) (nI k) so' lo' c e o lg wr (nI g) one oth x9 c o) (fun (v34 : Int32) => (if v34 = 0 then g51_11 (x9 + 1) 1 else g51_11 (x9 + 1) 0))))))) else (if (0 : Int32) ≤ 0 then (if x10 = 0 then (if (2 : Int32) ≤ 0 then gin (nI g) 10 (gin (nI g) 10 (some ((nI g + 1) - 1, 2, upd mho (nI g).toNatClampNeg p, nI g + 1, upd mih (nI g).toNatClampNeg (vp_nar .boolean 1)))) else some (0, 2, mho, nI g, mih)) else (if (0 : Int32) ≤ 0 then gin (nI g) 10 (gin (nI g) 10 (some ((nI g + 1) - 1, 0, upd mho (nI g).toNatClampNeg p, nI g + 1, upd mih (nI g).toNatClampNeg (vp_nar .boolean 1)))) else some (0, 0, mho, nI g, mih))) else (if (1 : Int32) ≤ 0 then gin (nI g) 10 (gin (nI g) 10 (some ((nI g + 1) - 1, 1, upd mho (nI g).toNatClampNeg p, nI g + 1, upd mih (nI g).toNatClampNeg (vp_nar .boolean 1)))) else some (0, 1, mho, nI g, mih))))) N 0 (bI Y) = (if bI (Y ∧ SFE k a b c e o p) = 0 then some (0, 2, mho, nI g, mih) else gin (nI g) 10 (some (nI g, 0, upd mho g p, nI (g + 1), upd mih g 1))) := by
      intro Y
      refine it2_go (n := n) (fun i X => X = bI (Y ∧ ∀ v, v < i → bt p v = true → bt (CL k a b c e) v = true ∧ ¬ bt (CL k a b c o) v = true)) (fun X => if X = 0 then some (0, 2, mho, nI g, mih) else gin (nI g) 10 (some (nI g, 0, upd mho g p, nI (g + 1), upd mih g 1))) ?_ ?_ ?_ (by omega) ?_
      · intro f X hX
        show (if nI n ≤ nI n then _ else _) = _
        rw [if_pos (nI_le (Nat.le_refl n) (by omega)), if_pos (by decide)]
        by_cases z : X = 0
        · rw [if_pos z, if_pos z, if_neg (by decide)]
        · rw [if_neg z, if_neg z, if_pos (by decide), nI_1, nI_pred, nI_j (by omega), nar1]
          unfold gin
          split
          · rfl
          · rfl
      · intro f i X hi hX
        show ∃ y, _ ∧ (if nI n ≤ nI i then _ else _) = _
        rw [if_neg (nI_gt hi (by omega)), if_pos rfl, nI_1]
        by_cases z : X = 0
        · rw [if_pos z]
          refine ⟨0, ?_, rfl⟩
          rw [hX] at z
          rw [bI_0]
          rintro ⟨y1, y2⟩
          exact bI_z.mp z ⟨y1, fun v hv => y2 v (by omega)⟩
        · rw [if_neg z, p_has (by omega), bd1_ok, m_earthed hG h1 h2 hie hi hN, m_live hG h1 h2 hio hi hN]
          have hX' : Y ∧ ∀ v, v < i → bt p v = true → bt (CL k a b c e) v = true ∧ ¬ bt (CL k a b c o) v = true := Classical.byContradiction (fun y => z (by rw [hX]; exact bI_z.mpr y))
          simp only [bd1_ok]
          have ext : (bt p i = true → bt (CL k a b c e) i = true ∧ ¬ bt (CL k a b c o) i = true) → (1 : Int32) = bI (Y ∧ ∀ v, v < i + 1 → bt p v = true → bt (CL k a b c e) v = true ∧ ¬ bt (CL k a b c o) v = true) := fun y => (bI_1 ⟨hX'.1, fun v hv => by
            by_cases w : v = i
            · rw [w]; exact y
            · exact hX'.2 v (by omega)⟩).symm
          have ext0 : ¬ (bt p i = true → bt (CL k a b c e) i = true ∧ ¬ bt (CL k a b c o) i = true) → (0 : Int32) = bI (Y ∧ ∀ v, v < i + 1 → bt p v = true → bt (CL k a b c e) v = true ∧ ¬ bt (CL k a b c o) v = true) := fun y => (bI_0 (fun w => y (w.2 i (by omega)))).symm
          by_cases hb : bt p i = true
          · rw [if_pos hb, if_neg (by decide)]
            by_cases hE : bt (CL k a b c e) i = true
            · rw [if_neg (fun y => bI_z.mp y hE)]
              by_cases hO : bt (CL k a b c o) i = true
              · rw [if_neg (fun y => bI_z.mp y hO)]
                exact ⟨_, ext0 (fun y => (y hb).2 hO), rfl⟩
              · rw [if_pos (bI_z.mpr hO)]
                exact ⟨_, ext (fun _ => ⟨hE, hO⟩), rfl⟩
            · rw [if_pos (bI_z.mpr hE)]
              exact ⟨_, ext0 (fun y => hE (y hb).1), rfl⟩
          · rw [if_neg hb, if_pos rfl]
            exact ⟨_, ext (fun y => absurd y hb), rfl⟩
      · exact bI_c ⟨fun y => ⟨y, fun v hv => absurd hv (Nat.not_lt_zero v)⟩, fun y => y.1⟩
      · intro y hy
        have : bI (Y ∧ SFE k a b c e o p) = y := by
          rw [hy]
          exact bI_c ⟨fun w => ⟨w.1, fun v _ => w.2 v⟩, fun w => ⟨w.1, fun v hv => w.2 v (hP.2 v hv) hv⟩⟩
        rw [this]
    have fin : ∀ Y : Prop, (Y ↔ g < 10 ∧ p &&& orF (hmM mho mih) g = 0) → (¬ (g < 10 ∧ SFE k a b c e o p ∧ p &&& orF (hmM mho mih) g = 0) → (if bI (Y ∧ SFE k a b c e o p) = 0 then some ((0 : Int32), (2 : Int32), mho, nI g, mih) else gin (nI g) 10 (some (nI g, 0, upd mho g p, nI (g + 1), upd mih g 1))) = some (0, 2, mho, nI g, mih)) ∧ ((g < 10 ∧ SFE k a b c e o p ∧ p &&& orF (hmM mho mih) g = 0) → (if bI (Y ∧ SFE k a b c e o p) = 0 then some ((0 : Int32), (2 : Int32), mho, nI g, mih) else gin (nI g) 10 (some (nI g, 0, upd mho g p, nI (g + 1), upd mih g 1))) = some (nI g, 0, upd mho g p, nI (g + 1), upd mih g 1)) := fun Y hY => by
      refine ⟨fun w => ?_, fun w => ?_⟩
      · rw [if_pos (bI_z.mpr (fun y => w ⟨(hY.mp y.1).1, y.2, (hY.mp y.1).2⟩))]
      · rw [if_neg (fun y => bI_z.mp y ⟨hY.mpr ⟨w.1, w.2.2⟩, w.2.1⟩), gin_ok w.1 (by omega)]
    by_cases h10 : (10 : Int32) ≤ nI g
    · rw [if_pos h10]
      have := fin False ⟨fun y => y.elim, fun y => hge.mp h10 y.1⟩
      rw [← key False, bI_0 (fun y => y)] at this
      exact ⟨fun _ => this.1, fun _ => this.2⟩
    · rw [if_neg h10, m_held hg hN, bd1_ok]
      have hg10 : g < 10 := Classical.byContradiction (fun y => h10 (hge.mpr y))
      by_cases hh : p &&& orF (hmM mho mih) g = 0
      · rw [if_pos hh]
        have := fin True ⟨fun _ => ⟨hg10, hh⟩, fun _ => trivial⟩
        rw [← key True, bI_1 trivial] at this
        exact ⟨fun _ => this.1, fun _ => this.2⟩
      · rw [if_neg hh]
        have := fin False ⟨fun y => y.elim, fun y => hh y.2⟩
        rw [← key False, bI_0 (fun y => y)] at this
        exact ⟨fun _ => this.1, fun _ => this.2⟩
  · refine ⟨fun _ => ?_, fun z => absurd z hP, fun z => absurd z hP⟩
    rw [if_pos (bI_z.mpr hP)]
    have go : ∀ y : Int32, it2 (fun (g51_11 : Int32 → Int32 → Option (Int32 × Int32 × (Nat → Int32) × Int32 × (Nat → Int32))) (x9 : Int32) (x10 : Int32) => if nI n ≤ x9 then (if (1 : Int32) ≤ 0 then (if x10 = 0 then (if (2 : Int32) ≤ 0 then gin (nI g) 10 (gin (nI g) 10 (some ((nI g + 1) - 1, 2, upd mho (nI g).toNatClampNeg p, nI g + 1, upd mih (nI g).toNatClampNeg (vp_nar .boolean 1)))) else some (0, 2, mho, nI g, mih)) else (if (0 : Int32) ≤ 0 then gin (nI g) 10 (gin (nI g) 10 (some ((nI g + 1) - 1, 0, upd mho (nI g).toNatClampNeg p, nI g + 1, upd mih (nI g).toNatClampNeg (vp_nar .boolean 1)))) else some (0, 0, mho, nI g, mih))) else (if (1 : Int32) ≤ 0 then gin (nI g) 10 (gin (nI g) 10 (some ((nI g + 1) - 1, 1, upd mho (nI g).toNatClampNeg p, nI g + 1, upd mih (nI g).toNatClampNeg (vp_nar .boolean 1)))) else some (0, 1, mho, nI g, mih))) else (if (1 : Int32) = 0 then (if x10 = 0 then g51_11 (x9 + 1) 0 else bd1 (fX5_has N p x9) (fun (v28 : Int32) => (if v28 = 0 then g51_11 (x9 + 1) 1 else bd1 (fX5_isEarthed N 1 (nI n) (nI k) so' lo' c e o lg wr (nI g) one oth x9 c e) (fun (v31 : Int32) => (if v31 = 0 then g51_11 (x9 + 1) 0 else bd1 (fX5_isLive N 1 (nI n) (nI k) so' lo' c e o lg wr (nI g) one oth x9 c o) (fun (v34 : Int32) => (if v34 = 0 then g51_11 (x9 + 1) 1 else g51_11 (x9 + 1) 0))))))) else (if (1 : Int32) ≤ 0 then (if x10 = 0 then (if (2 : Int32) ≤ 0 then gin (nI g) 10 (gin (nI g) 10 (some ((nI g + 1) - 1, 2, upd mho (nI g).toNatClampNeg p, nI g + 1, upd mih (nI g).toNatClampNeg (vp_nar .boolean 1)))) else some (0, 2, mho, nI g, mih)) else (if (0 : Int32) ≤ 0 then gin (nI g) 10 (gin (nI g) 10 (some ((nI g + 1) - 1, 0, upd mho (nI g).toNatClampNeg p, nI g + 1, upd mih (nI g).toNatClampNeg (vp_nar .boolean 1)))) else some (0, 0, mho, nI g, mih))) else (if (1 : Int32) ≤ 0 then gin (nI g) 10 (gin (nI g) 10 (some ((nI g + 1) - 1, 1, upd mho (nI g).toNatClampNeg p, nI g + 1, upd mih (nI g).toNatClampNeg (vp_nar .boolean 1)))) else some (0, 1, mho, nI g, mih))))) N 0 y = some (0, 1, mho, nI g, mih) := by
      intro y
      cases N with
      | zero => omega
      | succ M =>
        rw [it2]
        show (if nI n ≤ 0 then _ else _) = _
        by_cases h : nI n ≤ 0
        · rw [if_pos h, if_neg (by decide), if_neg (by decide)]
        · rw [if_neg h, if_neg (by decide), if_neg (by decide), if_neg (by decide)]
    by_cases h10 : (10 : Int32) ≤ nI g
    · rw [if_pos h10]
      exact go 0
    · rw [if_neg h10, m_held hg hN, bd1_ok]
      by_cases hh : p &&& orF (hmM mho mih) g = 0
      · rw [if_pos hh]
        exact go 1
      · rw [if_neg hh]
        exact go 0
end SETS
