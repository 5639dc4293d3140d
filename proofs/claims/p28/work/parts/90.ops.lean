/-! what the class answers to the law's calls: acts, reasons, rows, permits, parts -/
def IAE : String := "java/lang/IllegalArgumentException"
def IOB : String := "java/lang/IndexOutOfBoundsException"
def ISE : String := "java/lang/IllegalStateException"
theorem NIN_self {n : Nat} (hn : n < 2 ^ 31) : ¬ NIN n (nI n) := by
  rintro ⟨j, hj, e⟩
  have := (nI_eq hn (by omega)).mp e
  omega
theorem NIN_m1 {n : Nat} (hn : n < 2 ^ 31) : ¬ NIN n (-1) := by
  rintro ⟨j, hj, e⟩
  have h : (-1 : Int32) < 0 := by decide
  rw [e] at h
  exact nI_pos (by omega) h
theorem NIN_i {n j : Nat} (h : j < n) : NIN n (nI j) := ⟨j, h, rfl⟩
section OPS
variable {n k : Nat} {a b : Nat → Nat} {ends : Nat → Int32} {br so lo c e o : Int32} {N d r g q w : Nat} {hol dac rac : Nat → Int32}
theorem iof_1 (hq : q < 2) : fX4_isOfSwitch N (nI q) = some 1 := by
  unfold fX4_isOfSwitch
  rcases (show q = 0 ∨ q = 1 by omega) with rfl | rfl <;> rfl
theorem iof_0 (h2 : 2 ≤ q) (h5 : q ≤ 5) : fX4_isOfSwitch N (nI q) = some 0 := by
  unfold fX4_isOfSwitch
  rcases (show q = 2 ∨ q = 3 ∨ q = 4 ∨ q = 5 by omega) with rfl | rfl | rfl | rfl <;> rfl
theorem q_rng (hq : q ≤ 5) : ¬ nI q < 0 ∧ nI q ≤ 5 := ⟨nI_pos (by omega), nI_le (a := q) (b := 5) (by omega) (by omega)⟩
theorem rA_ok (hn : n ≤ 16) (hk : k ≤ 24) (hA : ACT n k q w) : fX4_requireAct N (nI n) (nI k) br so lo (nI q) (nI w) = some (.inr ()) := by
  have hq := hA.1
  obtain ⟨h1, e5⟩ := q_rng hq
  unfold fX4_requireAct
  rw [if_neg h1, if_pos e5, c_hasNode (by omega), c_hasSwitch (by omega)]
  by_cases h2q : q < 2
  · rw [iof_1 h2q]
    simp only [bd1_ok]
    rw [bI_1 (NIN_i (hA.2.1 h2q))]
    rfl
  · rw [iof_0 (by omega) hq]
    simp only [bd1_ok]
    rw [bI_1 (NIN_i (hA.2.2 (by omega)))]
    rfl
theorem rA_kind {nc sc p0 p1 : Int32} (h : p0 < 0 ∨ ¬ p0 ≤ 5) : fX4_requireAct N nc sc br so lo p0 p1 = some (.inl "java/lang/IllegalArgumentException") := by
  unfold fX4_requireAct
  by_cases z : p0 < 0
  · rw [if_pos z]
  · rw [if_neg z, if_neg (h.resolve_left z)]
theorem rA_sw {nc p1 : Int32} (hk : k ≤ 24) (hq : q < 2) (h : ¬ NIN k p1) : fX4_requireAct N nc (nI k) br so lo (nI q) p1 = some (.inl "java/lang/IndexOutOfBoundsException") := by
  obtain ⟨h1, e5⟩ := q_rng (q := q) (by omega)
  unfold fX4_requireAct
  rw [if_neg h1, if_pos e5, c_hasSwitch (by omega), iof_1 hq]
  simp only [bd1_ok]
  rw [bI_0 h]
  rfl
theorem rA_nd {sc p1 : Int32} (hn : n ≤ 16) (h2 : 2 ≤ q) (h5 : q ≤ 5) (h : ¬ NIN n p1) : fX4_requireAct N (nI n) sc br so lo (nI q) p1 = some (.inl "java/lang/IndexOutOfBoundsException") := by
  obtain ⟨h1, e5⟩ := q_rng h5
  unfold fX4_requireAct
  rw [if_neg h1, if_pos e5, c_hasNode (by omega), iof_0 h2 h5]
  simp only [bd1_ok]
  rw [bI_0 h]
  rfl
/-! act -/
theorem lA_kind {nc sc cl ea on ds pg ac ae ao p0 p1 : Int32} (h : p0 < 0 ∨ ¬ p0 ≤ 5) : fL_act N nc sc br so lo ends cl ea on ds dac pg hol ac ae ao p0 p1 = some (-71, cl, ea, on, ds, dac, ac, ae, ao) := by
  unfold fL_act fX4_act
  rw [rA_kind h, bx0_x, bh9_x]
  simp
theorem lA_sw {nc cl ea on ds pg ac ae ao p1 : Int32} (hk : k ≤ 24) (hq : q < 2) (h : ¬ NIN k p1) : fL_act N nc (nI k) br so lo ends cl ea on ds dac pg hol ac ae ao (nI q) p1 = some (-72, cl, ea, on, ds, dac, ac, ae, ao) := by
  unfold fL_act fX4_act
  rw [rA_sw hk hq h, bx0_x, bh9_x]
  simp
theorem lA_nd {sc cl ea on ds pg ac ae ao p1 : Int32} (hn : n ≤ 16) (h2 : 2 ≤ q) (h5 : q ≤ 5) (h : ¬ NIN n p1) : fL_act N (nI n) sc br so lo ends cl ea on ds dac pg hol ac ae ao (nI q) p1 = some (-72, cl, ea, on, ds, dac, ac, ae, ao) := by
  unfold fL_act fX4_act
  rw [rA_nd hn h2 h5 h, bx0_x, bh9_x]
  simp
theorem c_do {ac ae ao : Int32} (hG : GR n k a b) (he : ∀ s, s < k → ends s = edg a b s) (hH : HS n k a b so lo c e o) (hA : ACT n k q w) (hg : g ≤ 10) (hd : d < 200) (hN : 40 ≤ N) :
    ∃ x y z, (VAL k a b br so lo c e o (orF hol g) q w = 0 → fX4_doAndLog N (nI n) (nI k) br so lo ends c e o (nI d) dac (nI g) hol ac ae ao (nI (100 * q + w)) = some (0, flC q c w, flE q e w, flO q o w, nI (d + 1), upd dac d (nI (100 * q + w)), x, y, z)) ∧
      (¬ VAL k a b br so lo c e o (orF hol g) q w = 0 → fX4_doAndLog N (nI n) (nI k) br so lo ends c e o (nI d) dac (nI g) hol ac ae ao (nI (100 * q + w)) = some (VAL k a b br so lo c e o (orF hol g) q w, c, e, o, nI d, dac, x, y, z)) := by
  have hw := hA.w32 hG
  have hq := hA.1
  obtain ⟨x, y, z, eR⟩ := c_reason (N := N) (hol := hol) (br := br) (ac := ac) (ae := ae) (ao := ao) hG he hH hA hg hN
  refine ⟨x, y, z, fun hv => ?_, fun hv => ?_⟩
  · unfold fX4_doAndLog
    rw [c_kind hq hw, bd1_ok, c_what hq hw, bd1_ok, eR, bd4_ok, hv, if_pos rfl, bd1_ok, bd1_ok, c_flip hq, bd3_ok, c_append hd (Nat.le_refl _), bd2_ok]
  · unfold fX4_doAndLog
    rw [c_kind hq hw, bd1_ok, c_what hq hw, bd1_ok, eR, bd4_ok, if_neg hv]
theorem lA_ok {ac ae ao : Int32} (hG : GR n k a b) (he : ∀ s, s < k → ends s = edg a b s) (hH : HS n k a b so lo c e o) (hA : ACT n k q w) (hg : g ≤ 10) (hd : d < 200) (hN : 40 ≤ N) :
    ∃ x y z, (VAL k a b br so lo c e o (orF hol g) q w = 0 → fL_act N (nI n) (nI k) br so lo ends c e o (nI d) dac (nI g) hol ac ae ao (nI q) (nI w) = some (0, flC q c w, flE q e w, flO q o w, nI (d + 1), upd dac d (nI (100 * q + w)), x, y, z)) ∧
      (¬ VAL k a b br so lo c e o (orF hol g) q w = 0 → fL_act N (nI n) (nI k) br so lo ends c e o (nI d) dac (nI g) hol ac ae ao (nI q) (nI w) = some (VAL k a b br so lo c e o (orF hol g) q w, c, e, o, nI d, dac, x, y, z)) := by
  have hw := hA.w32 hG
  have hq := hA.1
  obtain ⟨x, y, z, e1, e2⟩ := c_do (N := N) (hol := hol) (dac := dac) (br := br) (ac := ac) (ae := ae) (ao := ao) hG he hH hA hg hd hN
  refine ⟨x, y, z, fun hv => ?_, fun hv => ?_⟩
  · unfold fL_act fX4_act fX0_size
    rw [rA_ok hG.1 hG.2.1 hA, bx0_ok, bd1_ok, if_pos (show nI d < 200 from nI_lt (b := 200) hd (by omega)), c_actOf hq hw, bd1_ok, e1 hv, bd9_ok, bh9_ok]
  · unfold fL_act fX4_act fX0_size
    rw [rA_ok hG.1 hG.2.1 hA, bx0_ok, bd1_ok, if_pos (show nI d < 200 from nI_lt (b := 200) hd (by omega)), c_actOf hq hw, bd1_ok, e2 hv, bd9_ok, bh9_ok]
/-! reason -/
theorem lR_kind {nc sc cl ea on pg ac ae ao p0 p1 : Int32} (h : p0 < 0 ∨ ¬ p0 ≤ 5) : fL_reason N nc sc br so lo ends cl ea on pg hol ac ae ao p0 p1 = some (-71, ac, ae, ao) := by
  unfold fL_reason fX4_reason
  rw [rA_kind h, bx0_x, bh4_x]
  simp
theorem lR_sw {nc cl ea on pg ac ae ao p1 : Int32} (hk : k ≤ 24) (hq : q < 2) (h : ¬ NIN k p1) : fL_reason N nc (nI k) br so lo ends cl ea on pg hol ac ae ao (nI q) p1 = some (-72, ac, ae, ao) := by
  unfold fL_reason fX4_reason
  rw [rA_sw hk hq h, bx0_x, bh4_x]
  simp
theorem lR_nd {sc cl ea on pg ac ae ao p1 : Int32} (hn : n ≤ 16) (h2 : 2 ≤ q) (h5 : q ≤ 5) (h : ¬ NIN n p1) : fL_reason N (nI n) sc br so lo ends cl ea on pg hol ac ae ao (nI q) p1 = some (-72, ac, ae, ao) := by
  unfold fL_reason fX4_reason
  rw [rA_nd hn h2 h5 h, bx0_x, bh4_x]
  simp
theorem lR_ok {ac ae ao : Int32} (hG : GR n k a b) (he : ∀ s, s < k → ends s = edg a b s) (hH : HS n k a b so lo c e o) (hA : ACT n k q w) (hg : g ≤ 10) (hN : 40 ≤ N) :
    ∃ x y z, fL_reason N (nI n) (nI k) br so lo ends c e o (nI g) hol ac ae ao (nI q) (nI w) = some (VAL k a b br so lo c e o (orF hol g) q w, x, y, z) := by
  obtain ⟨x, y, z, eR⟩ := c_reason (N := N) (hol := hol) (br := br) (ac := ac) (ae := ae) (ao := ao) hG he hH hA hg hN
  refine ⟨x, y, z, ?_⟩
  unfold fL_reason fX4_reason
  rw [rA_ok hG.1 hG.2.1 hA, bx0_ok, eR, bd4_ok, bh4_ok]
/-! takeBack -/
theorem lT_0 {nc sc cl ea on pg ac ae ao : Int32} : fL_takeBack N nc sc br so lo ends cl ea on (nI 0) dac pg hol ac ae ao = some (-73, cl, ea, on, nI 0, ac, ae, ao) := by
  unfold fL_takeBack fX4_takeBack fX0_size
  rw [bd1_ok, nI_0, if_pos rfl, bh8_x]
  simp
theorem lT_ok {ac ae ao : Int32} {m : Nat} (hG : GR n k a b) (he : ∀ s, s < k → ends s = edg a b s) (hH : HS n k a b so lo c e o) (hA : ACT n k q w) (hg : g ≤ 10) (hm : m < 200) (hl : dac m = nI (100 * q + w)) (hN : 40 ≤ N) :
    ∃ x y z, (VAL k a b br so lo c e o (orF hol g) (opp q) w = 0 → fL_takeBack N (nI n) (nI k) br so lo ends c e o (nI (m + 1)) dac (nI g) hol ac ae ao = some (0, flC (opp q) c w, flE (opp q) e w, flO (opp q) o w, nI m, x, y, z)) ∧
      (¬ VAL k a b br so lo c e o (orF hol g) (opp q) w = 0 → fL_takeBack N (nI n) (nI k) br so lo ends c e o (nI (m + 1)) dac (nI g) hol ac ae ao = some (VAL k a b br so lo c e o (orF hol g) (opp q) w, c, e, o, nI (m + 1), x, y, z)) := by
  have hw := hA.w32 hG
  have hq := hA.1
  have hA' := hA.op
  have hq' := hA'.1
  have hne : ¬ nI (m + 1) = 0 := nI_ne0 (by omega) (by omega)
  have eL : fX0_latest N (nI (m + 1)) 200 dac 0 = some (dac m) := c_latest (i := 0) (by omega) (by omega) (Nat.le_refl _)
  obtain ⟨x, y, z, eR⟩ := c_reason (N := N) (hol := hol) (br := br) (ac := ac) (ae := ae) (ao := ao) hG he hH hA' hg hN
  refine ⟨x, y, z, fun hv => ?_, fun hv => ?_⟩
  · unfold fL_takeBack fX4_takeBack fX0_size
    rw [bd1_ok, if_neg hne, eL, bd1_ok, hl, c_opp hq hw, bd1_ok, c_kind hq' hw, bd1_ok, c_what hq' hw, bd1_ok, eR, bd4_ok, hv, if_pos rfl, bd1_ok, bd1_ok, c_flip hq', bd3_ok]
    unfold fX0_dropLast
    rw [bd1_ok, nI_pred, bh8_ok]
  · unfold fL_takeBack fX4_takeBack fX0_size
    rw [bd1_ok, if_neg hne, eL, bd1_ok, hl, c_opp hq hw, bd1_ok, c_kind hq' hw, bd1_ok, c_what hq' hw, bd1_ok, eR, bd4_ok, if_neg hv, bh8_ok]
/-! logged, times, write, erase -/
theorem lL_ok {j : Nat} (hj : j < d) (hd : d ≤ 200) : fL_logged N (nI d) dac (nI j) = some (dac (d - 1 - j)) := by
  unfold fL_logged fX4_logged fX0_size
  rw [if_neg (nI_pos (by omega)), bd1_ok, if_pos (nI_lt hj (by omega)), c_latest hj hd (Nat.le_refl _), bd1_ok, bh1_ok]
theorem lL_n (hd : d ≤ 200) : fL_logged N (nI d) dac (nI d) = some (-72) := by
  unfold fL_logged fX4_logged fX0_size
  rw [if_neg (nI_pos (by omega)), bd1_ok, if_neg (nI_nlt (Nat.le_refl d) (by omega)), bh1_x]
  simp
theorem lL_m1 {ds : Int32} : fL_logged N ds dac (-1) = some (-72) := by
  unfold fL_logged fX4_logged
  rw [if_pos (by decide), bh1_x]
  simp
theorem cT_ok (hG : GR n k a b) (hA : ACT n k q w) (hd : d ≤ 200) (hN : 300 ≤ N) : fX4_times N (nI n) (nI k) br so lo (nI d) dac (nI q) (nI w) = some (.inr (nI (ctN (fun i => decide (dac i = nI (100 * q + w))) d))) := by
  have hw := hA.w32 hG
  unfold fX4_times
  rw [rA_ok hG.1 hG.2.1 hA, bx0_ok, c_actOf hA.1 hw, bd1_ok, c_cnt hd (Nat.le_refl _) hN, bd1_ok]
theorem lW_kind {nc sc rs p0 p1 : Int32} (h : p0 < 0 ∨ ¬ p0 ≤ 5) : fL_write N nc sc br so lo rs rac p0 p1 = some (-71, rs, rac) := by
  unfold fL_write fX4_write
  rw [rA_kind h, bx0_x, bh3_x]
  simp
theorem lW_sw {nc rs p1 : Int32} (hk : k ≤ 24) (hq : q < 2) (h : ¬ NIN k p1) : fL_write N nc (nI k) br so lo rs rac (nI q) p1 = some (-72, rs, rac) := by
  unfold fL_write fX4_write
  rw [rA_sw hk hq h, bx0_x, bh3_x]
  simp
theorem lW_nd {sc rs p1 : Int32} (hn : n ≤ 16) (h2 : 2 ≤ q) (h5 : q ≤ 5) (h : ¬ NIN n p1) : fL_write N (nI n) sc br so lo rs rac (nI q) p1 = some (-72, rs, rac) := by
  unfold fL_write fX4_write
  rw [rA_nd hn h2 h5 h, bx0_x, bh3_x]
  simp
theorem lW_full (hG : GR n k a b) (hA : ACT n k q w) : fL_write N (nI n) (nI k) br so lo (nI 30) rac (nI q) (nI w) = some (-73, nI 30, rac) := by
  unfold fL_write fX4_write fX0_size
  rw [rA_ok hG.1 hG.2.1 hA, bx0_ok, bd1_ok, if_neg (show ¬ nI 30 < 30 by decide), bh3_x]
  simp
theorem lW_ok (hG : GR n k a b) (hA : ACT n k q w) (hr : r < 30) : fL_write N (nI n) (nI k) br so lo (nI r) rac (nI q) (nI w) = some (nI (r + 1), nI (r + 1), upd rac r (nI (100 * q + w))) := by
  have hw := hA.w32 hG
  unfold fL_write fX4_write fX0_size
  rw [rA_ok hG.1 hG.2.1 hA, bx0_ok, bd1_ok, if_pos (show nI r < 30 from nI_lt (b := 30) hr (by omega)), c_actOf hA.1 hw, bd1_ok, c_append (by omega) (by omega), bd2_ok, bd1_ok, bh3_ok]
theorem cE_ok (hr : r ≤ 30) (hN : 40 ≤ N) : ∃ rac', fX4_erase N (nI r) rac = some (nI r, nI 0, rac') := by
  obtain ⟨rac', e, _⟩ := c_drop (arr := rac) (Nat.le_refl r) hr hN
  refine ⟨rac', ?_⟩
  unfold fX4_erase fX0_size
  rw [bd1_ok, e, bd2_ok, Nat.sub_self]
/-! permits -/
theorem lP_bad {cl ea on sc pg p : Int32} (hn : n ≤ 16) (h : p = 0 ∨ ¬ inN n p) : fL_permit N (nI n) sc br so lo ends cl ea on pg hol p = some (-71, hol, pg) := by
  unfold fL_permit fX4_permit fX1_allNodes
  by_cases z : p = 0
  · rw [if_pos z, bh3_x]
    simp
  · rw [if_neg z, bd1_ok, if_neg (fun y => (h.resolve_left z) ((rng2 hn).mp y)), bh3_x]
    simp
theorem lP_st {p : Int32} (hG : GR n k a b) (he : ∀ s, s < k → ends s = edg a b s) (hie : inN n e) (hio : inN n o) (hg : g ≤ 10) (hp0 : ¬ p = 0) (hp : inN n p) (h : g = 10 ∨ ¬ (SFE k a b c e o p ∧ p &&& orF hol g = 0)) (hN : 40 ≤ N) :
    fL_permit N (nI n) (nI k) br so lo ends c e o (nI g) hol p = some (-73, hol, nI g) := by
  unfold fL_permit fX4_permit fX1_allNodes fX2_given
  rw [if_neg hp0, bd1_ok, if_pos ((rng2 hG.1).mpr hp), c_can hG he hie hio hg hN, bd1_ok]
  by_cases z : SFE k a b c e o p ∧ p &&& orF hol g = 0
  · have h10 : g = 10 := h.resolve_right (fun y => y z)
    rw [if_neg (fun y => bI_z.mp y z), bd1_ok, h10, if_neg (show ¬ nI 10 < 10 by decide), bh3_x]
    simp
  · rw [if_pos (bI_z.mpr z), bh3_x]
    simp
theorem lP_ok {p : Int32} (hG : GR n k a b) (he : ∀ s, s < k → ends s = edg a b s) (hie : inN n e) (hio : inN n o) (hg : g < 10) (hp0 : ¬ p = 0) (hp : inN n p) (h : SFE k a b c e o p ∧ p &&& orF hol g = 0) (hN : 40 ≤ N) :
    fL_permit N (nI n) (nI k) br so lo ends c e o (nI g) hol p = some (nI g, upd hol g p, nI (g + 1)) := by
  unfold fL_permit fX4_permit fX1_allNodes fX2_given fX2_give
  rw [if_neg hp0, bd1_ok, if_pos ((rng2 hG.1).mpr hp), c_can hG he hie hio (by omega) hN, bd1_ok, if_neg (fun y => bI_z.mp y h), bd1_ok, if_pos (show nI g < 10 from nI_lt (b := 10) hg (by omega)), gin_ok hg (by omega), bd3_ok, nI_1, nI_j (by omega), bh3_ok]
theorem lH_n (hg : g ≤ 10) : fL_handBack N (nI g) hol (nI g) = some (-72, hol) := by
  unfold fL_handBack fX4_handBack fX2_given
  rw [if_neg (nI_pos (by omega)), bd1_ok, if_neg (nI_nlt (Nat.le_refl g) (by omega)), bh2_x]
  simp
theorem lH_m1 {pg : Int32} : fL_handBack N pg hol (-1) = some (-72, hol) := by
  unfold fL_handBack fX4_handBack
  rw [if_pos (by decide), bh2_x]
  simp
theorem lH_z {j : Nat} (hg : g ≤ 10) (hj : j < g) (hz : hol j = 0) : fL_handBack N (nI g) hol (nI j) = some (-73, hol) := by
  unfold fL_handBack fX4_handBack fX2_given fX2_isHeld
  rw [if_neg (nI_pos (by omega)), bd1_ok, if_pos (nI_lt hj (by omega)), gin_ok (by omega) (by omega), nI_j (by omega), if_pos hz, bd1_ok, if_pos rfl, bh2_x]
  simp
theorem lH_ok {j : Nat} (hg : g ≤ 10) (hj : j < g) (hz : ¬ hol j = 0) (hN : 40 ≤ N) : fL_handBack N (nI g) hol (nI j) = some (nI (ctN (fun i => decide (¬ upd hol j 0 i = 0)) g), upd hol j 0) := by
  unfold fL_handBack fX4_handBack fX2_given fX2_isHeld fX2_release
  rw [if_neg (nI_pos (by omega)), bd1_ok, if_pos (nI_lt hj (by omega)), gin_ok (by omega) (by omega), nI_j (by omega), if_neg hz, bd1_ok, if_neg (by decide), gin_ok (by omega) (by omega), bd1_ok, c_count hg hN, bd1_ok, bh2_ok]
/-! parts, isClosed, toLive -/
theorem lPa_ok {j : Nat} (hG : GR n k a b) (he : ∀ s, s < k → ends s = edg a b s) (hj : j < n) (hN : 40 ≤ N) : fL_part N (nI n) (nI k) br so lo ends c e o (nI j) = some (CL k a b c ((1 : Int32) <<< (nI j &&& 31))) := by
  have hn := hG.1
  unfold fL_part fX4_part
  rcases c_reqN (N := N) (n := n) (sc := nI k) (br := br) (so := so) (lo := lo) (p := nI j) (by omega) with ⟨h, e1⟩ | ⟨h, e1⟩
  · rw [e1, bx0_ok, p_cw hG he (q_bitN hn hj) hN, bd1_ok, bh1_ok]
  · exact absurd (NIN_i hj) h
theorem lPa_x {sc cl ea on p : Int32} (hn : n ≤ 16) (h : ¬ NIN n p) : fL_part N (nI n) sc br so lo ends cl ea on p = some (-72) := by
  unfold fL_part fX4_part
  rcases c_reqN (N := N) (n := n) (sc := sc) (br := br) (so := so) (lo := lo) (p := p) (by omega) with ⟨h1, e1⟩ | ⟨h1, e1⟩
  · exact absurd h1 h
  · rw [e1, bx0_x, bh1_x]
    simp
theorem lTo_x {sc cl ea on p : Int32} (hn : n ≤ 16) (h : ¬ NIN n p) : fL_toLive N (nI n) sc br so lo ends cl ea on p = some (-72) := by
  unfold fL_toLive fX4_toLive
  rcases c_reqN (N := N) (n := n) (sc := sc) (br := br) (so := so) (lo := lo) (p := p) (by omega) with ⟨h1, e1⟩ | ⟨h1, e1⟩
  · exact absurd h1 h
  · rw [e1, bx0_x, bh1_x]
    simp
theorem lTo_ok {p : Nat} (hG : GR n k a b) (he : ∀ s, s < k → ends s = edg a b s) (hp : p < n) (hN : 40 ≤ N) :
    (∃ i0, i0 < n ∧ ¬ RR k a b c p i0 &&& o = 0 ∧ (∀ j, j < i0 → RR k a b c p j &&& o = 0) ∧ fL_toLive N (nI n) (nI k) br so lo ends c e o (nI p) = some (nI i0)) ∨
    ((∀ j, j < n → RR k a b c p j &&& o = 0) ∧ fL_toLive N (nI n) (nI k) br so lo ends c e o (nI p) = some (-74)) := by
  rcases c_tol (N := N) (c := c) (o := o) (br := br) (so := so) (lo := lo) (te := e) hG he hp hN with ⟨i0, t1, t2, t3, t4⟩ | ⟨t3, t4⟩
  · refine Or.inl ⟨i0, t1, t2, t3, ?_⟩
    unfold fL_toLive
    rw [t4, bh1_ok]
  · refine Or.inr ⟨t3, ?_⟩
    unfold fL_toLive
    rw [t4, bh1_x]
    simp
theorem cI_ok {nc : Int32} {j : Nat} (hk : k ≤ 24) (hj : j < k) : fX4_isClosed N nc (nI k) br so lo c e o (nI j) = some (.inr (bI (bt c j = true))) := by
  unfold fX4_isClosed fX3_isOn
  rw [c_hasSwitch (by omega), bd1_ok, bI_1 (NIN_i hj), if_neg (show ¬ (1 : Int32) = 0 by decide), if_neg (show ¬ (1 : Int32) = 0 by decide), if_pos rfl, tst0 (by omega), bd1_ok, gd_ok bI_bz]
/-! building -/
theorem lN_ok {sc p0 p1 : Int32} (hn : n < 16) : fL_addNode N (nI n) sc br so lo p0 p1 = some (nI n, nI (n + 1), so ||| (if p0 = 0 then 0 else ((1 : Int32) <<< (nI n &&& 31))), lo ||| (if p1 = 0 then 0 else ((1 : Int32) <<< (nI n &&& 31)))) := by
  unfold fL_addNode fX4_addNode fX1_nodeCount fX1_appendNode
  simp only [jn1]
  rw [bd1_ok, if_pos (show nI n < 16 from nI_lt (b := 16) hn (by omega)), nI_1]
  by_cases h0 : p0 = 0
  · by_cases h1 : p1 = 0
    · simp only [if_pos h0, if_pos h1]; rfl
    · simp only [if_pos h0, if_neg h1]; rfl
  · by_cases h1 : p1 = 0
    · simp only [if_neg h0, if_pos h1]; rfl
    · simp only [if_neg h0, if_neg h1]; rfl
theorem lS_x {sc p0 p1 p2 : Int32} (hn : n ≤ 16) (h : ¬ NIN n p0 ∨ ¬ NIN n p1) : fL_addSwitch N (nI n) sc br so lo ends p0 p1 p2 = some (-72, ends, sc, br) := by
  unfold fL_addSwitch fX4_addSwitch
  rcases c_reqN (N := N) (n := n) (sc := sc) (br := br) (so := so) (lo := lo) (p := p0) (by omega) with ⟨h0, e0⟩ | ⟨h0, e0⟩
  · rw [e0, bx0_ok]
    rcases c_reqN (N := N) (n := n) (sc := sc) (br := br) (so := so) (lo := lo) (p := p1) (by omega) with ⟨h1, e1⟩ | ⟨h1, e1⟩
    · exact (h.elim (fun z => z h0) (fun z => z h1)).elim
    · rw [e1, bx0_x, bh4_x]
      simp
  · rw [e0, bx0_x, bh4_x]
    simp
theorem lS_req {sc p : Int32} (hn : n ≤ 16) (h : NIN n p) : fX4_requireNode N (nI n) sc br so lo p = some (.inr ()) := by
  rcases c_reqN (N := N) (n := n) (sc := sc) (br := br) (so := so) (lo := lo) (p := p) (by omega) with ⟨h0, e0⟩ | ⟨h0, e0⟩
  · exact e0
  · exact absurd h h0
theorem lS_same {sc p2 p : Int32} (hn : n ≤ 16) (h : NIN n p) : fL_addSwitch N (nI n) sc br so lo ends p p p2 = some (-71, ends, sc, br) := by
  unfold fL_addSwitch fX4_addSwitch
  rw [lS_req hn h, bx0_ok, bx0_ok, if_pos rfl, bh4_x]
  simp
theorem lS_full {p0 p1 p2 : Int32} (hn : n ≤ 16) (h0 : NIN n p0) (h1 : NIN n p1) (hne : ¬ p0 = p1) : fL_addSwitch N (nI n) (nI 24) br so lo ends p0 p1 p2 = some (-73, ends, nI 24, br) := by
  unfold fL_addSwitch fX4_addSwitch fX1_switchCount
  rw [lS_req hn h0, bx0_ok, lS_req hn h1, bx0_ok, if_neg hne, bd1_ok, if_neg (show ¬ nI 24 < 24 by decide), bh4_x]
  simp
theorem lS_ok {p0 p1 p2 : Int32} (hn : n ≤ 16) (hk : k < 24) (h0 : NIN n p0) (h1 : NIN n p1) (hne : ¬ p0 = p1) : fL_addSwitch N (nI n) (nI k) br so lo ends p0 p1 p2 = some (nI k, upd ends k (((1 : Int32) <<< (p0 &&& 31)) ||| ((1 : Int32) <<< (p1 &&& 31))), nI (k + 1), br ||| (if p2 = 0 then 0 else ((1 : Int32) <<< (nI k &&& 31)))) := by
  unfold fL_addSwitch fX4_addSwitch fX1_switchCount fX1_appendSwitch
  simp only [jn1]
  rw [lS_req hn h0, bx0_ok, lS_req hn h1, bx0_ok, if_neg hne, bd1_ok, if_pos (show nI k < 24 from nI_lt (b := 24) hk (by omega)), gin_ok hk (by omega), nI_j (by omega), nI_1]
  by_cases h2 : p2 = 0
  · simp only [if_pos h2]; rfl
  · simp only [if_neg h2]; rfl
end OPS
