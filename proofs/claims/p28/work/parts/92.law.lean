/-! the law's own rows of numbers, and its parts, sets and reasons -/
def FG (n k : Nat) (so lo : Int32) (d r g : Nat) (fg : Nat → Int32) : Prop := fg 0 = nI n ∧ fg 1 = nI k ∧ fg 2 = so ∧ fg 3 = lo ∧ fg 4 = nI d ∧ fg 5 = nI r ∧ fg 6 = nI g
def tw (a b : Nat) (z : Bool) : Nat := a + 16 * b + (if z = true then 256 else 0)
def FT (k : Nat) (a b : Nat → Nat) (br : Int32) (ft : Nat → Int32) : Prop := ∀ s, s < k → ft s = nI (tw (a s) (b s) (bt br s))
def SD (fd : Nat → Int32) (c e o : Int32) : Prop := fd 0 = c ∧ fd 1 = e ∧ fd 2 = o
theorem tw_lo : ∀ a, a < 16 → ∀ b, b < 16 → ∀ z : Bool, nI (tw a b z) &&& 15 = nI a := by decide +kernel
theorem tw_hi : ∀ a, a < 16 → ∀ b, b < 16 → ∀ z : Bool, (nI (tw a b z) >>> (4 &&& 31)) &&& 15 = nI b := by decide +kernel
theorem tw_bk : ∀ a, a < 16 → ∀ b, b < 16 → ∀ z : Bool, decide ((256 : Int32) ≤ nI (tw a b z)) = z := by decide +kernel
section LAY
variable {n k : Nat} {a b : Nat → Nat} {br so lo c e o C : Int32} {N d r g q w s : Nat} {ft fm fg fh fd hol : Nat → Int32}
theorem GR.le (hG : GR n k a b) (hs : s ≤ k) : GR n s a b := ⟨hG.1, Nat.le_trans hs hG.2.1, fun t ht => hG.2.2 t (by omega)⟩
theorem cn_S {u v : Nat} (hb : bt C s = true) : cn (s + 1) a b C u v ↔ cn s a b C u v ∨ (cn s a b C u (a s) ∧ cn s a b C (b s) v) ∨ (cn s a b C u (b s) ∧ cn s a b C (a s) v) := by
  constructor
  · intro hc
    have key := hc (fun y => cn s a b C u y ∨ (cn s a b C u (a s) ∧ cn s a b C (b s) y) ∨ (cn s a b C u (b s) ∧ cn s a b C (a s) y)) (fun t ht hbt => by
      by_cases z : t = s
      · subst z
        constructor
        · rintro (x | ⟨x, y⟩ | ⟨x, y⟩)
          · exact Or.inr (Or.inl ⟨x, cn.rf⟩)
          · exact Or.inr (Or.inl ⟨x, cn.rf⟩)
          · exact Or.inl x
        · rintro (x | ⟨x, y⟩ | ⟨x, y⟩)
          · exact Or.inr (Or.inr ⟨x, cn.rf⟩)
          · exact Or.inl x
          · exact Or.inr (Or.inr ⟨x, cn.rf⟩)
      · have ed := cn.ed (k := s) (a := a) (b := b) (c := C) (s := t) (by omega) hbt
        constructor
        · rintro (x | ⟨x, y⟩ | ⟨x, y⟩)
          · exact Or.inl (x.tr ed)
          · exact Or.inr (Or.inl ⟨x, y.tr ed⟩)
          · exact Or.inr (Or.inr ⟨x, y.tr ed⟩)
        · rintro (x | ⟨x, y⟩ | ⟨x, y⟩)
          · exact Or.inl (x.tr ed.sm)
          · exact Or.inr (Or.inl ⟨x, y.tr ed.sm⟩)
          · exact Or.inr (Or.inr ⟨x, y.tr ed.sm⟩))
    exact key.mp (Or.inl cn.rf)
  · have mono : ∀ x y, cn s a b C x y → cn (s + 1) a b C x y := fun x y h P hP => h P (fun t ht hbt => hP t (by omega) hbt)
    have ed : cn (s + 1) a b C (a s) (b s) := cn.ed (by omega) hb
    rintro (x | ⟨x, y⟩ | ⟨x, y⟩)
    · exact mono _ _ x
    · exact ((mono _ _ x).tr ed).tr (mono _ _ y)
    · exact ((mono _ _ x).tr ed.sm).tr (mono _ _ y)
theorem cn_S0 {u v : Nat} (hb : ¬ bt C s = true) : cn (s + 1) a b C u v ↔ cn s a b C u v := by
  constructor
  · intro h P hP
    refine h P (fun t ht hbt => ?_)
    by_cases z : t = s
    · rw [z] at hbt; exact absurd hbt hb
    · exact hP t (by omega) hbt
  · intro h P hP
    exact h P (fun t ht hbt => hP t (by omega) hbt)
theorem CL_0 {v : Nat} (hG : GR n k a b) (hv : v < n) : CL 0 a b C ((1 : Int32) <<< (nI v &&& 31)) = (1 : Int32) <<< (nI v &&& 31) := by
  have hn := hG.1
  refine q_eq.mpr (fun i => ?_)
  rw [cl_bit (hG.le (Nat.zero_le k)) hv, q_bitT (by omega)]
  constructor
  · intro h
    exact ((h (fun y => y = v) (fun t ht => absurd ht (Nat.not_lt_zero t))).mp rfl)
  · intro h
    rw [h]
    exact cn.rf
/-- one more switch that is closed -/
theorem CL_S {v : Nat} (hG : GR n k a b) (hs : s < k) (hb : bt C s = true) (hv : v < n) :
    CL (s + 1) a b C ((1 : Int32) <<< (nI v &&& 31)) = if bt (CL s a b C ((1 : Int32) <<< (nI (a s) &&& 31)) ||| CL s a b C ((1 : Int32) <<< (nI (b s) &&& 31))) v = true then CL s a b C ((1 : Int32) <<< (nI (a s) &&& 31)) ||| CL s a b C ((1 : Int32) <<< (nI (b s) &&& 31)) else CL s a b C ((1 : Int32) <<< (nI v &&& 31)) := by
  obtain ⟨ha, hbn, -⟩ := hG.2.2 s hs
  have hGs := hG.le (s := s) (by omega)
  have hGt := hG.le (s := s + 1) (by omega)
  have hin : ∀ i, bt (CL s a b C ((1 : Int32) <<< (nI (a s) &&& 31)) ||| CL s a b C ((1 : Int32) <<< (nI (b s) &&& 31))) i = true ↔ cn s a b C (a s) i ∨ cn s a b C (b s) i := fun i => by
    rw [b_or, Bool.or_eq_true, cl_bit hGs ha, cl_bit hGs hbn]
  refine q_eq.mpr (fun i => ?_)
  rw [cl_bit hGt hv, cn_S hb]
  by_cases z : bt (CL s a b C ((1 : Int32) <<< (nI (a s) &&& 31)) ||| CL s a b C ((1 : Int32) <<< (nI (b s) &&& 31))) v = true
  · rw [if_pos z, hin]
    rcases (hin v).mp z with h | h
    · constructor
      · rintro (x | ⟨x, y⟩ | ⟨x, y⟩)
        · exact Or.inl (h.tr x)
        · exact Or.inr y
        · exact Or.inl y
      · rintro (x | x)
        · exact Or.inl (h.sm.tr x)
        · exact Or.inr (Or.inl ⟨h.sm, x⟩)
    · constructor
      · rintro (x | ⟨x, y⟩ | ⟨x, y⟩)
        · exact Or.inr (h.tr x)
        · exact Or.inr y
        · exact Or.inl y
      · rintro (x | x)
        · exact Or.inr (Or.inr ⟨h.sm, x⟩)
        · exact Or.inl (h.sm.tr x)
  · rw [if_neg z, cl_bit hGs hv]
    constructor
    · rintro (x | ⟨x, y⟩ | ⟨x, y⟩)
      · exact x
      · exact absurd ((hin v).mpr (Or.inl x.sm)) z
      · exact absurd ((hin v).mpr (Or.inr x.sm)) z
    · exact Or.inl
theorem CL_S0 {v : Nat} (hG : GR n k a b) (hs : s < k) (hb : ¬ bt C s = true) (hv : v < n) : CL (s + 1) a b C ((1 : Int32) <<< (nI v &&& 31)) = CL s a b C ((1 : Int32) <<< (nI v &&& 31)) := by
  refine q_eq.mpr (fun i => ?_)
  rw [cl_bit (hG.le (s := s + 1) (by omega)) hv, cl_bit (hG.le (s := s) (by omega)) hv, cn_S0 hb]
theorem l_lay_in {both x : Int32} {w8 : Nat → Int32} {ρ : Type} (G : Int32 → (Nat → Int32) → Option ρ) (hn : n ≤ 16) (hN : 40 ≤ N) :
    ∃ w', (∀ v, v < n → w' v = if bt both v = true then both else w8 v) ∧ it2 (fun (g74_20 : Int32 → (Nat → Int32) → Option ρ) (x18 : Int32) (w19 : Nat → Int32) => (if nI n ≤ x18 then G x w19 else (if ((both >>> (x18 &&& 31)) &&& 1) = 1 then gin x18 16 (g74_20 (x18 + 1) (upd w19 x18.toNatClampNeg both)) else g74_20 (x18 + 1) w19))) N 0 w8 = G x w' := by
  refine it2_w (n := n) (fun i x w => x = nI i ∧ (∀ v, v < i → w v = if bt both v = true then both else w8 v) ∧ ∀ v, i ≤ v → w v = w8 v) (fun R => ∃ w', (∀ v, v < n → w' v = if bt both v = true then both else w8 v) ∧ R = G x w') ?_ N 0 0 w8 (Nat.zero_le _) (by omega) ⟨rfl, fun v hv => absurd hv (Nat.not_lt_zero v), fun v _ => rfl⟩
  rintro g' i x1 w hi ⟨rfl, h1, h2⟩
  by_cases z : i < n
  · by_cases y : bt both i = true
    · refine Or.inr ⟨z, nI (i + 1), upd w i both, ⟨rfl, fun v hv => ?_, fun v hv => ?_⟩, ?_⟩
      · by_cases q : v = i
        · rw [q, upd_s, if_pos y]
        · rw [upd_o q, h1 v (by omega)]
      · rw [upd_o (by omega), h2 v (by omega)]
      · rw [if_neg (nI_gt z (by omega)), if_pos ((q_t1 (by omega)).mpr y), gin_ok (by omega) (by omega), nI_j (by omega), nI_1]
    · refine Or.inr ⟨z, nI (i + 1), w, ⟨rfl, fun v hv => ?_, fun v hv => h2 v (by omega)⟩, ?_⟩
      · by_cases q : v = i
        · rw [q, if_neg y, h2 i (Nat.le_refl i)]
        · exact h1 v (by omega)
      · rw [if_neg (nI_gt z (by omega)), if_neg (fun z => y ((q_t1 (by omega)).mp z)), nI_1]
  · have : i = n := by omega
    subst this
    rw [if_pos (nI_le (Nat.le_refl _) (by omega))]
    exact Or.inl ⟨w, h1, rfl⟩
theorem l_lay (hG : GR n k a b) (h0 : fg 0 = nI n) (h1 : fg 1 = nI k) (hT : FT k a b br ft) (hN : 40 ≤ N) :
    ∃ m', fL_lay N ft fm fg C = some m' ∧ ∀ v, v < n → m' v = CL k a b C ((1 : Int32) <<< (nI v &&& 31)) := by
  have hn := hG.1
  have hk := hG.2.1
  unfold fL_lay
  rw [h0, h1]
  refine it2_w (n := n) (fun i x w => x = nI i ∧ ∀ v, v < i → w v = (1 : Int32) <<< (nI v &&& 31)) (fun (R : Option (Nat → Int32)) => ∃ m', R = some m' ∧ ∀ v, v < n → m' v = CL k a b C ((1 : Int32) <<< (nI v &&& 31))) ?_ N 0 0 fm (Nat.zero_le _) (by omega) ⟨rfl, fun v hv => absurd hv (Nat.not_lt_zero v)⟩
  rintro G i x w hi ⟨rfl, j1⟩
  by_cases z : i < n
  · refine Or.inr ⟨z, nI (i + 1), upd w i ((1 : Int32) <<< (nI i &&& 31)), ⟨rfl, fun v hv => ?_⟩, ?_⟩
    · by_cases q : v = i
      · rw [q, upd_s]
      · rw [upd_o q, j1 v (by omega)]
    · rw [if_neg (nI_gt z (by omega)), gin_ok (by omega) (by omega), nI_j (by omega), nI_1]
  · have hin : i = n := by omega
    subst hin
    rw [if_pos (nI_le (Nat.le_refl _) (by omega))]
    refine Or.inl ?_
    refine it2_w (n := k) (fun s x w => x = nI s ∧ ∀ v, v < i → w v = CL s a b C ((1 : Int32) <<< (nI v &&& 31))) (fun (R : Option (Nat → Int32)) => ∃ m', R = some m' ∧ ∀ v, v < i → m' v = CL k a b C ((1 : Int32) <<< (nI v &&& 31))) ?_ N 0 0 w (Nat.zero_le _) (by omega) ⟨rfl, fun v hv => by rw [j1 v hv, CL_0 hG hv]⟩
    rintro G2 s x w2 hs ⟨rfl, j2⟩
    by_cases z2 : s < k
    · obtain ⟨ha, hb, hab⟩ := hG.2.2 s z2
      rw [if_neg (nI_gt z2 (by omega))]
      by_cases y : bt C s = true
      · rw [if_neg (fun q => by rw [q_t0 (by omega), y] at q; cases q)]
        simp only [gin_ok (show s < 24 by omega) (show 24 < 2 ^ 31 by omega), nI_j (show s < 2 ^ 31 by omega), hT s z2, tw_lo (a s) (by omega) (b s) (by omega), tw_hi (a s) (by omega) (b s) (by omega), gin_ok (show a s < 16 by omega) (show 16 < 2 ^ 31 by omega), gin_ok (show b s < 16 by omega) (show 16 < 2 ^ 31 by omega), nI_j (show a s < 2 ^ 31 by omega), nI_j (show b s < 2 ^ 31 by omega), nI_1]
        obtain ⟨w', k1, k2⟩ := l_lay_in (n := i) (N := N) (x := nI (s + 1)) (both := w2 (a s) ||| w2 (b s)) (w8 := w2) G2 hn hN
        refine Or.inr ⟨z2, nI (s + 1), w', ⟨rfl, fun v hv => ?_⟩, k2⟩
        rw [k1 v hv, CL_S hG z2 y hv, j2 (a s) ha, j2 (b s) hb, j2 v hv]
      · rw [if_pos ((q_t0 (by omega)).mpr (bF.mp y)), nI_1]
        exact Or.inr ⟨z2, nI (s + 1), w2, ⟨rfl, fun v hv => by rw [CL_S0 hG z2 y hv, j2 v hv]⟩, rfl⟩
    · have : s = k := by omega
      subst this
      rw [if_pos (nI_le (Nat.le_refl _) (by omega))]
      exact Or.inl ⟨w2, rfl, j2⟩
theorem l_with {m : Nat → Int32} {S : Int32} (hG : GR n k a b) (h0 : fg 0 = nI n) (hm : ∀ v, v < n → m v = CL k a b C ((1 : Int32) <<< (nI v &&& 31))) (hS : inN n S) (hN : 40 ≤ N) : fL_with N m fg S = some (CL k a b C S) := by
  have hn := hG.1
  unfold fL_with
  rw [h0]
  refine it2_go (n := n) (fun i X => X = mkS (bt (CL k a b C S)) i) (fun X => some X) ?_ ?_ rfl (by omega) (fun y hy => by rw [hy, mkS_all (CL_in hG hS) hn])
  · intro f X hX
    show (if nI n ≤ nI n then _ else _) = _
    rw [if_pos (nI_le (Nat.le_refl n) (by omega))]
  · intro f i X hi hX
    show ∃ y, _ ∧ (if nI n ≤ nI i then _ else _) = _
    rw [if_neg (nI_gt hi (by omega)), gin_ok (by omega) (by omega), nI_j (by omega), nI_1, hm i hi]
    by_cases h : bt (CL k a b C S) i = true
    · rw [if_neg (fun z => (lv_sym hG hS hi).mp z h)]
      exact ⟨_, by rw [mkS, if_pos h, ← hX], rfl⟩
    · rw [if_pos ((lv_sym hG hS hi).mpr h)]
      exact ⟨_, by rw [mkS, if_neg h, hX, or0], rfl⟩
theorem l_held (h6 : fg 6 = nI g) (hg : g ≤ 10) (hh : ∀ p, p < g → fh p = hol p) (hN : 40 ≤ N) : fL_held N fh fg = some (orF hol g) := by
  unfold fL_held
  rw [h6]
  refine it2_go (n := g) (fun i X => X = orF hol i) (fun X => some X) ?_ ?_ rfl (by omega) (fun y hy => by rw [hy])
  · intro f X hX
    show (if nI g ≤ nI g then _ else _) = _
    rw [if_pos (nI_le (Nat.le_refl g) (by omega))]
  · intro f i X hi hX
    show ∃ y, _ ∧ (if nI g ≤ nI i then _ else _) = _
    rw [if_neg (nI_gt hi (by omega)), gin_ok (by omega) (by omega), nI_j (by omega), nI_1, hh i hi]
    exact ⟨_, by rw [orF, ← hX], rfl⟩
/-! low, randomAct -/
theorem s_u : ∀ n, n < 32 → (((nI n).toUInt32 &&& Int32.toUInt32 31).toBitVec % 32).toNat = n := by decide +kernel
theorem b_ushr (n : Nat) (hn : n < 32) (x : Int32) (i : Nat) : bt ((x.toUInt32 >>> ((nI n).toUInt32 &&& Int32.toUInt32 31)).toInt32) i = bt x (n + i) := by
  show (x.toUInt32 >>> ((nI n).toUInt32 &&& Int32.toUInt32 31)).toBitVec.getLsbD i = x.toUInt32.toBitVec.getLsbD (n + i)
  rw [UInt32.toBitVec_shiftRight]
  show (x.toUInt32.toBitVec >>> (((nI n).toUInt32 &&& Int32.toUInt32 31).toBitVec % 32).toNat).getLsbD i = _
  rw [s_u n hn, BitVec.getLsbD_ushiftRight]
theorem l_low {v : Int32} (hn : 0 < n) (hn2 : n < 2 ^ 31) : ∃ j, j < n ∧ fL_low N v (nI n) = some (nI j) := by
  have hne : ¬ nI n = 0 := nI_ne0 hn hn2
  have hb : bt ((v.toUInt32 >>> ((1 : Int32).toUInt32 &&& Int32.toUInt32 31)).toInt32) 31 = false := (b_ushr 1 (by omega) v 31).trans (b_big (by omega))
  unfold fL_low
  rw [gd_ok (decide_eq_true hne)]
  generalize (v.toUInt32 >>> ((1 : Int32).toUInt32 &&& Int32.toUInt32 31)).toInt32 = y at hb ⊢
  obtain ⟨m, hm, rfl⟩ := nI_of (show ¬ y < 0 from fun z => by rw [neg_bt z] at hb; cases hb)
  exact ⟨m % n, Nat.mod_lt _ hn, congrArg some (pk_rem hm hn hn2)⟩
theorem l_rand {y : Int32} (hn : 0 < n) (hn2 : n ≤ 16) (hk : k ≤ 24) (h0 : fg 0 = nI n) (h1 : fg 1 = nI k) : ∃ q w, ACT n k q w ∧ fL_randomAct N fg y = some (nI (100 * q + w)) := by
  obtain ⟨j, hj, e⟩ := l_low (n := 10) (N := N) (v := y) (by omega) (by omega)
  have e : fL_low N y 10 = some (nI j) := e
  unfold fL_randomAct
  rw [h0, h1, e, bd1_ok]
  have c5 : nI j ≤ 5 ↔ j ≤ 5 := nI_leI (b := 5) (by omega) (by omega)
  have hkq : ∃ kq, kq ≤ 5 ∧ ∀ (ρ : Type) (gg : Int32 → Option ρ), (if nI j ≤ 5 then gg (nI j) else gg (nI j - nI j / 2 * 2)) = gg (nI kq) := by
    by_cases z : j ≤ 5
    · exact ⟨j, z, fun ρ gg => if_pos (c5.mpr z)⟩
    · refine ⟨j % 2, by omega, fun ρ gg => ?_⟩
      rw [if_neg (fun y => z (c5.mp y))]
      exact congrArg gg (pk_rem (a := j) (d := 2) (by omega) (by omega) (by omega))
  obtain ⟨kq, hkq5, ekq⟩ := hkq
  rw [jn1_to (nI kq) (ekq _)]
  have c2 : ∀ i, i ≤ 5 → ((2 : Int32) ≤ nI i ↔ 2 ≤ i) := fun i hi => nI_leI (a := 2) (by omega) (by omega)
  have ck : nI k = 0 ↔ k = 0 := nI_eq (b := 0) (by omega) (by omega)
  have hk2 : ∃ k2, k2 ≤ 5 ∧ (k2 < 2 → 0 < k) ∧ ∀ (ρ : Type) (gg : Int32 → Option ρ), (if (2 : Int32) ≤ nI kq then gg (nI kq) else (if nI k = 0 then gg 4 else gg (nI kq))) = gg (nI k2) := by
    by_cases z : 2 ≤ kq
    · exact ⟨kq, hkq5, fun y => by omega, fun ρ gg => if_pos ((c2 kq hkq5).mpr z)⟩
    · by_cases z2 : k = 0
      · refine ⟨4, by omega, fun y => by omega, fun ρ gg => ?_⟩
        rw [if_neg (fun y => z ((c2 kq hkq5).mp y)), if_pos (ck.mpr z2)]
        rfl
      · refine ⟨kq, hkq5, fun y => by omega, fun ρ gg => ?_⟩
        rw [if_neg (fun y => z ((c2 kq hkq5).mp y)), if_neg (fun y => z2 (ck.mp y))]
  obtain ⟨k2, hk25, hk20, ek2⟩ := hk2
  rw [jn1_to (nI k2) (ek2 _)]
  by_cases z : 2 ≤ k2
  · obtain ⟨i, hi, e2⟩ := l_low (n := n) (N := N) (v := y >>> (5 &&& 31)) hn (by omega)
    rw [if_pos ((c2 k2 hk25).mpr z), e2, bd1_ok]
    exact ⟨k2, i, ⟨hk25, fun y => by omega, fun _ => hi⟩, by rw [a_of k2 (by omega) i (by omega)]⟩
  · obtain ⟨i, hi, e2⟩ := l_low (n := k) (N := N) (v := y >>> (5 &&& 31)) (hk20 (by omega)) (by omega)
    rw [if_neg (fun y => z ((c2 k2 hk25).mp y)), e2, bd1_ok]
    exact ⟨k2, i, ⟨hk25, fun _ => hi, fun y => by omega⟩, by rw [a_of k2 (by omega) i (by omega)]⟩
end LAY
