/-! a row of acts: the state behind the first i of them, how many are allowed one behind the other -/
def qO (x : Int32) : Nat := x.toNatClampNeg / 100
def wO (x : Int32) : Nat := x.toNatClampNeg % 100
def opx (x : Int32) : Int32 := nI (100 * opp (qO x) + wO x)
def ROWs (n k d : Nat) (f : Nat → Int32) : Prop := ∀ j, j < d → ROW n k (f j)
def stS (f : Nat → Int32) (c e o : Int32) : Nat → Int32 × Int32 × Int32
  | 0 => (c, e, o)
  | i + 1 => (flC (qO (f i)) (stS f c e o i).1 (wO (f i)), flE (qO (f i)) (stS f c e o i).2.1 (wO (f i)), flO (qO (f i)) (stS f c e o i).2.2 (wO (f i)))
noncomputable def vlS (k : Nat) (a b : Nat → Nat) (br so lo hm : Int32) (f : Nat → Int32) (c e o : Int32) (i : Nat) : Int32 := VAL k a b br so lo (stS f c e o i).1 (stS f c e o i).2.1 (stS f c e o i).2.2 hm (qO (f i)) (wO (f i))
def UP (k : Nat) (a b : Nat → Nat) (br so lo hm : Int32) (f : Nat → Int32) (c e o : Int32) (m B : Nat) : Prop := m ≤ B ∧ (∀ j, j < m → vlS k a b br so lo hm f c e o j = 0) ∧ (m = B ∨ ¬ vlS k a b br so lo hm f c e o m = 0)
theorem UP_ex {k : Nat} {a b : Nat → Nat} {br so lo hm : Int32} {f : Nat → Int32} {c e o : Int32} : ∀ B, ∃ m, UP k a b br so lo hm f c e o m B
  | 0 => ⟨0, Nat.le_refl 0, fun j hj => absurd hj (Nat.not_lt_zero j), Or.inl rfl⟩
  | B + 1 => by
    obtain ⟨m, h1, h2, h3⟩ := UP_ex (k := k) (a := a) (b := b) (br := br) (so := so) (lo := lo) (hm := hm) (f := f) (c := c) (e := e) (o := o) B
    by_cases z : vlS k a b br so lo hm f c e o m = 0
    · have hm : m = B := h3.resolve_right (fun y => y z)
      subst hm
      refine ⟨m + 1, Nat.le_refl _, fun j hj => ?_, Or.inl rfl⟩
      by_cases y : j = m
      · rw [y]; exact z
      · exact h2 j (by omega)
    · exact ⟨m, by omega, h2, Or.inr z⟩
section SEQ
variable {n k : Nat} {a b : Nat → Nat} {ends : Nat → Int32} {br so lo c e o : Int32} {N d r g q w m : Nat} {hol dac rac : Nat → Int32}
theorem qO_a (hq : q ≤ 5) (hw : w < 32) : qO (nI (100 * q + w)) = q := by
  unfold qO
  rw [nI_j (by omega)]
  omega
theorem wO_a (hq : q ≤ 5) (hw : w < 32) : wO (nI (100 * q + w)) = w := by
  unfold wO
  rw [nI_j (by omega)]
  omega
theorem ROW_a {x : Int32} (hG : GR n k a b) (h : ROW n k x) : ACT n k (qO x) (wO x) ∧ x = nI (100 * qO x + wO x) := by
  obtain ⟨q, w, hA, rfl⟩ := h
  have hw := hA.w32 hG
  rw [qO_a hA.1 hw, wO_a hA.1 hw]
  exact ⟨hA, rfl⟩
theorem opx_r {x : Int32} (hG : GR n k a b) (h : ROW n k x) : ROW n k (opx x) := ⟨_, _, (ROW_a hG h).1.op, rfl⟩
theorem c_opx {x : Int32} (hG : GR n k a b) (h : ROW n k x) : fX4_oppositeOf N x = some (opx x) := by
  obtain ⟨hA, e⟩ := ROW_a hG h
  have := c_opp (N := N) hA.1 (hA.w32 hG)
  rw [← e] at this
  exact this
theorem a_op2 : ∀ q, q < 6 → ∀ w, w < 32 → (nI q ^^^ 1) * 100 + nI w = nI (100 * opp q + w) := by decide +kernel
theorem l_opx {x : Int32} (hG : GR n k a b) (h : ROW n k x) : fL_opposite N x = some (opx x) := by
  obtain ⟨hA, e⟩ := ROW_a hG h
  have hw := hA.w32 hG
  have hq := hA.1
  unfold fL_opposite
  have e1 := a_q (qO x) (by omega) (wO x) hw
  have e2 := a_w (qO x) (by omega) (wO x) hw
  rw [← e] at e1 e2
  rw [e2, e1, a_op2 (qO x) (by omega) (wO x) hw]
  rfl
theorem stS_HS {hm : Int32} (hG : GR n k a b) (hH : HS n k a b so lo c e o) (hr : ROWs n k r rac) (hmr : m ≤ r) (hv : ∀ j, j < m → vlS k a b br so lo hm rac c e o j = 0) : ∀ i, i ≤ m → HS n k a b so lo (stS rac c e o i).1 (stS rac c e o i).2.1 (stS rac c e o i).2.2
  | 0, _ => hH
  | i + 1, hi => HS_go hG (stS_HS hG hH hr hmr hv i (by omega)) (ROW_a hG (hr i (by omega))).1 (hv i (by omega))
/-- check -/
theorem c_check {tc te to ac ae ao : Int32} (hG : GR n k a b) (he : ∀ s, s < k → ends s = edg a b s) (hH : HS n k a b so lo c e o) (hg : g ≤ 10) (hr : r ≤ 30) (hR : ROWs n k r rac) (hU : UP k a b br so lo (orF hol g) rac c e o m r) (hN : 300 ≤ N) :
    ∃ t1 t2 t3 t4 t5 t6, fX4_check N (nI n) (nI k) br so lo ends c e o (nI r) rac (nI g) hol tc te to ac ae ao = some (nI m, t1, t2, t3, t4, t5, t6) := by
  obtain ⟨u1, u2, u3⟩ := hU
  unfold fX4_check fX3_copyFrom fX0_size
  rw [bd3_ok]
  refine it7_w (n := m) (fun i x5 w6 w7 w8 _ _ _ => x5 = nI i ∧ w6 = (stS rac c e o i).1 ∧ w7 = (stS rac c e o i).2.1 ∧ w8 = (stS rac c e o i).2.2) (fun R => ∃ t1 t2 t3 t4 t5 t6, R = some (nI m, t1, t2, t3, t4, t5, t6)) ?_ N 0 0 c e o ac ae ao (Nat.zero_le _) (by omega) ⟨rfl, rfl, rfl, rfl⟩
  rintro G i x5 w6 w7 w8 w9 w10 w11 hi ⟨rfl, rfl, rfl, rfl⟩
  have hHi := stS_HS hG hH hR u1 u2 i hi
  rw [bd1_ok]
  by_cases z : i < r
  · obtain ⟨hA, ex⟩ := ROW_a hG (hR i z)
    have hw := hA.w32 hG
    have hq := hA.1
    obtain ⟨x, y, z', eR⟩ := c_reason (N := N) (hol := hol) (br := br) (ac := w9) (ae := w10) (ao := w11) hG he hHi hA hg (by omega)
    have ek : fX4_kindOf N (rac i) = some (nI (qO (rac i))) := by
      have := c_kind (N := N) hq hw
      rw [← ex] at this
      exact this
    have ew : fX4_whatOf N (rac i) = some (nI (wO (rac i))) := by
      have := c_what (N := N) hq hw
      rw [← ex] at this
      exact this
    rw [if_neg (nI_gt z (by omega)), c_get (s := r) (by omega) (by omega), bd1_ok, ek, bd1_ok, ew, bd1_ok, eR, bd4_ok]
    by_cases y2 : i < m
    · refine Or.inr ⟨y2, nI (i + 1), (stS rac c e o (i + 1)).1, (stS rac c e o (i + 1)).2.1, (stS rac c e o (i + 1)).2.2, x, y, z', ⟨rfl, rfl, rfl, rfl⟩, ?_⟩
      have hv := u2 i y2
      unfold vlS at hv
      rw [hv, if_pos rfl, bd1_ok, bd1_ok, c_flip hq, bd3_ok, nI_1]
      rfl
    · have him : i = m := by omega
      subst him
      have hv : ¬ vlS k a b br so lo (orF hol g) rac c e o i = 0 := u3.resolve_left (by omega)
      unfold vlS at hv
      rw [if_neg hv]
      exact Or.inl ⟨_, _, _, _, _, _, rfl⟩
  · have him : i = m := by omega
    have hmr : m = r := by omega
    subst him
    rw [if_pos (nI_le (by omega) (by omega)), bd1_ok]
    exact Or.inl ⟨_, _, _, _, _, _, by rw [hmr]⟩
theorem lC_bad {nc sc cl ea on ds rs pg ac ae ao p : Int32} (h : p < 1 ∨ ¬ p ≤ 30) : fL_carryOut N nc sc br so lo ends cl ea on ds dac rs rac pg hol ac ae ao p = some (-71, cl, ea, on, ds, dac, rs, rac, ac, ae, ao) := by
  unfold fL_carryOut fX4_carryOut
  by_cases z : p < 1
  · rw [if_pos z, bh11_x]
    simp
  · rw [if_neg z, if_neg (h.resolve_left z), bh11_x]
    simp
/-- carryOut: W the acts that are wanted and there, m of them allowed -/
theorem lC_ok {ac ae ao : Int32} {P W : Nat} (hG : GR n k a b) (he : ∀ s, s < k → ends s = edg a b s) (hH : HS n k a b so lo c e o) (hg : g ≤ 10) (hr : r ≤ 30) (hR : ROWs n k r rac) (hP : 1 ≤ P) (hP2 : P ≤ 30) (hW : W = min P r) (hd : d + W ≤ 200) (hU : UP k a b br so lo (orF hol g) rac c e o m W) (hN : 300 ≤ N) :
    ∃ dac' rac' x y z, fL_carryOut N (nI n) (nI k) br so lo ends c e o (nI d) dac (nI r) rac (nI g) hol ac ae ao (nI P) = some (nI m, (stS rac c e o m).1, (stS rac c e o m).2.1, (stS rac c e o m).2.2, nI (d + m), dac', nI (r - m), rac', x, y, z) ∧ (∀ j, j < d → dac' j = dac j) ∧ (∀ j, j < m → dac' (d + j) = rac j) ∧ (∀ j, j < r - m → rac' j = rac (m + j)) := by
  obtain ⟨u1, u2, u3⟩ := hU
  have hWr : W ≤ r := by omega
  have eW : (if nI r < nI P then nI r else nI P) = nI W := by
    by_cases z : r < P
    · rw [if_pos (nI_lt z (by omega)), show W = r by omega]
    · rw [if_neg (nI_nlt (by omega) (by omega)), show W = P by omega]
  unfold fL_carryOut fX4_carryOut fX0_size
  rw [if_neg (show ¬ nI P < 1 from fun z => by have := (nI_ltI (b := 1) (by omega) (by omega)).mp z; omega), if_pos (show nI P ≤ 30 from nI_le (b := 30) hP2 (by omega)), bd1_ok, bd1_ok, eW, nI_add, if_pos (show nI (d + W) ≤ 200 from nI_le (b := 200) hd (by omega))]
  have key : ∃ dac' rac' x y z, it11 (fun (g60_19 : Int32 → Int32 → Int32 → Int32 → Int32 → (Nat → Int32) → Int32 → (Nat → Int32) → Int32 → Int32 → Int32 → Option (String ⊕ (Int32 × Int32 × Int32 × Int32 × Int32 × (Nat → Int32) × Int32 × (Nat → Int32) × Int32 × Int32 × Int32))) (x8 : Int32) (w9 : Int32) (w10 : Int32) (w11 : Int32) (w12 : Int32) (w13 : Nat → Int32) (w14 : Int32) (w15 : Nat → Int32) (w16 : Int32) (w17 : Int32) (w18 : Int32) => (if nI W ≤ x8 then bd2 (fX0_dropFirst N w14 30 w15 x8) (fun w23 w24 => some (.inr (x8, w9, w10, w11, w12, w13, w24, w23, w16, w17, w18))) else bd1 (fX0_get N w14 30 w15 x8) (fun v25 => bd9 (fX4_doAndLog N (nI n) (nI k) br so lo ends w9 w10 w11 w12 w13 (nI g) hol w16 w17 w18 v25) (fun v28 w29 w30 w31 w32 w33 w34 w35 w36 => (if v28 = 0 then g60_19 (x8 + 1) w29 w30 w31 w32 w33 w14 w15 w34 w35 w36 else bd2 (fX0_dropFirst N w14 30 w15 x8) (fun w39 w40 => some (.inr (x8, w29, w30, w31, w32, w33, w40, w39, w34, w35, w36)))))))) N 0 c e o (nI d) dac (nI r) rac ac ae ao = some (.inr (nI m, (stS rac c e o m).1, (stS rac c e o m).2.1, (stS rac c e o m).2.2, nI (d + m), dac', nI (r - m), rac', x, y, z)) ∧ (∀ j, j < d → dac' j = dac j) ∧ (∀ j, j < m → dac' (d + j) = rac j) ∧ (∀ j, j < r - m → rac' j = rac (m + j)) := by
    obtain ⟨rac', f1, f2⟩ := c_drop (N := N) (arr := rac) (p := m) (s := r) (by omega) hr (by omega)
    refine it11_w (n := m) (fun i x8 w9 w10 w11 w12 w13 w14 w15 _ _ _ => x8 = nI i ∧ w9 = (stS rac c e o i).1 ∧ w10 = (stS rac c e o i).2.1 ∧ w11 = (stS rac c e o i).2.2 ∧ w12 = nI (d + i) ∧ w14 = nI r ∧ w15 = rac ∧ (∀ j, j < d → w13 j = dac j) ∧ (∀ j, j < i → w13 (d + j) = rac j)) (fun (R : Option (String ⊕ (Int32 × Int32 × Int32 × Int32 × Int32 × (Nat → Int32) × Int32 × (Nat → Int32) × Int32 × Int32 × Int32))) => ∃ dac' rac' x y z, R = some (Sum.inr (nI m, (stS rac c e o m).1, (stS rac c e o m).2.1, (stS rac c e o m).2.2, nI (d + m), dac', nI (r - m), rac', x, y, z)) ∧ (∀ j, j < d → dac' j = dac j) ∧ (∀ j, j < m → dac' (d + j) = rac j) ∧ (∀ j, j < r - m → rac' j = rac (m + j))) ?_ N 0 0 c e o (nI d) dac (nI r) rac ac ae ao (Nat.zero_le _) (by omega) ⟨rfl, rfl, rfl, rfl, rfl, rfl, rfl, fun _ _ => rfl, fun j hj => absurd hj (Nat.not_lt_zero j)⟩
    rintro G i x8 w9 w10 w11 w12 w13 w14 w15 w16 w17 w18 hi ⟨rfl, rfl, rfl, rfl, rfl, rfl, e15, i1, i2⟩
    rw [e15]
    have hHi := stS_HS hG hH hR (show m ≤ r by omega) u2 i hi
    by_cases z : i < W
    · obtain ⟨hA, ex⟩ := ROW_a hG (hR i (by omega))
      have hw := hA.w32 hG
      have hq := hA.1
      obtain ⟨x, y, z', e1, e2⟩ := c_do (N := N) (hol := hol) (dac := w13) (br := br) (ac := w16) (ae := w17) (ao := w18) hG he hHi hA hg (show d + i < 200 by omega) (by omega)
      rw [← ex] at e1 e2
      rw [if_neg (nI_gt z (by omega)), c_get (s := r) (by omega) (by omega), bd1_ok]
      by_cases y2 : i < m
      · have hv := u2 i y2
        unfold vlS at hv
        refine Or.inr ⟨y2, nI (i + 1), (stS rac c e o (i + 1)).1, (stS rac c e o (i + 1)).2.1, (stS rac c e o (i + 1)).2.2, nI (d + (i + 1)), upd w13 (d + i) (rac i), nI r, rac, x, y, z', ⟨rfl, rfl, rfl, rfl, rfl, rfl, rfl, fun j hj => ?_, fun j hj => ?_⟩, ?_⟩
        · rw [upd_o (by omega)]
          exact i1 j hj
        · by_cases y3 : j = i
          · rw [y3, upd_s]
          · rw [upd_o (by omega)]
            exact i2 j (by omega)
        · rw [e1 hv, bd9_ok, if_pos rfl, nI_1]
          rfl
      · have him : i = m := by omega
        subst him
        have hv : ¬ vlS k a b br so lo (orF hol g) rac c e o i = 0 := u3.resolve_left (by omega)
        unfold vlS at hv
        rw [e2 hv, bd9_ok, if_neg hv, f1, bd2_ok]
        exact Or.inl ⟨_, _, _, _, _, rfl, i1, i2, f2⟩
    · have him : i = m := by omega
      subst him
      rw [if_pos (nI_le (by omega) (by omega)), f1, bd2_ok]
      exact Or.inl ⟨_, _, _, _, _, rfl, i1, i2, f2⟩
  obtain ⟨dac', rac', x, y, z, e9, h1, h2, h3⟩ := key
  rw [e9, bh11_ok]
  exact ⟨dac', rac', x, y, z, rfl, h1, h2, h3⟩
/-- writeBack -/
theorem c_wback {W : Nat} (hG : GR n k a b) (hd : d ≤ 200) (hr : r ≤ 30) (hR : ROWs n k d dac) (hW : W = min d 30) (hN : 40 ≤ N) :
    ∃ rac', fX4_writeBack N (nI d) dac (nI r) rac = some (nI W, nI W, rac') ∧ ∀ j, j < W → rac' j = opx (dac (d - 1 - j)) := by
  obtain ⟨rac1, e1, _⟩ := c_drop (arr := rac) (Nat.le_refl r) hr hN
  unfold fX4_writeBack fX0_size
  rw [bd1_ok, bd1_ok, e1, bd2_ok, Nat.sub_self]
  have w1 : (if (30 : Int32) < nI d then (30 : Int32) else nI d) = nI W := by
    by_cases h : 30 < d
    · rw [if_pos (show (30 : Int32) < nI d from nI_lt (a := 30) h (by omega)), show W = 30 by omega]; rfl
    · rw [if_neg (show ¬ (30 : Int32) < nI d from nI_nlt (a := 30) (by omega) (by omega)), show W = d by omega]
  rw [w1]
  refine it3_w (n := W) (fun i x8 w9 w10 => x8 = nI i ∧ w9 = nI i ∧ ∀ j, j < i → w10 j = opx (dac (d - 1 - j))) (fun (R : Option (Int32 × Int32 × (Nat → Int32))) => ∃ rac', R = some (nI W, nI W, rac') ∧ ∀ j, j < W → rac' j = opx (dac (d - 1 - j))) ?_ N 0 0 (nI 0) rac1 (Nat.zero_le _) (by omega) ⟨rfl, rfl, fun j hj => absurd hj (Nat.not_lt_zero j)⟩
  rintro G i x8 w9 w10 hi ⟨rfl, rfl, h2⟩
  by_cases z : i < W
  · refine Or.inr ⟨z, nI (i + 1), nI (i + 1), upd w10 i (opx (dac (d - 1 - i))), ⟨rfl, rfl, fun j hj => ?_⟩, ?_⟩
    · by_cases q : j = i
      · rw [q, upd_s]
      · rw [upd_o q, h2 j (by omega)]
    · rw [if_neg (nI_gt z (by omega)), c_latest (by omega) hd (Nat.le_refl _), bd1_ok, c_opx hG (hR _ (by omega)), bd1_ok, c_append (by omega) (by omega), bd2_ok, nI_1]
  · have him : i = W := by omega
    subst him
    rw [if_pos (nI_le (Nat.le_refl _) (by omega))]
    exact Or.inl ⟨w10, rfl, h2⟩
end SEQ
