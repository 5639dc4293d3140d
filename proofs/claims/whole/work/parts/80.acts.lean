theorem bd5_ok {A1 A2 A3 A4 A5 ρ : Type} (a1 : A1) (a2 : A2) (a3 : A3) (a4 : A4) (a5 : A5) (k : A1 → A2 → A3 → A4 → A5 → Option ρ) : bd5 (some (a1, a2, a3, a4, a5)) k = k a1 a2 a3 a4 a5 := rfl
theorem bd6_ok {A1 A2 A3 A4 A5 A6 ρ : Type} (a1 : A1) (a2 : A2) (a3 : A3) (a4 : A4) (a5 : A5) (a6 : A6) (k : A1 → A2 → A3 → A4 → A5 → A6 → Option ρ) : bd6 (some (a1, a2, a3, a4, a5, a6)) k = k a1 a2 a3 a4 a5 a6 := rfl
theorem bd7_ok {A1 A2 A3 A4 A5 A6 A7 ρ : Type} (a1 : A1) (a2 : A2) (a3 : A3) (a4 : A4) (a5 : A5) (a6 : A6) (a7 : A7) (k : A1 → A2 → A3 → A4 → A5 → A6 → A7 → Option ρ) : bd7 (some (a1, a2, a3, a4, a5, a6, a7)) k = k a1 a2 a3 a4 a5 a6 a7 := rfl
theorem bd8_ok {A1 A2 A3 A4 A5 A6 A7 A8 ρ : Type} (a1 : A1) (a2 : A2) (a3 : A3) (a4 : A4) (a5 : A5) (a6 : A6) (a7 : A7) (a8 : A8) (k : A1 → A2 → A3 → A4 → A5 → A6 → A7 → A8 → Option ρ) : bd8 (some (a1, a2, a3, a4, a5, a6, a7, a8)) k = k a1 a2 a3 a4 a5 a6 a7 a8 := rfl
theorem bd9_ok {A1 A2 A3 A4 A5 A6 A7 A8 A9 ρ : Type} (a1 : A1) (a2 : A2) (a3 : A3) (a4 : A4) (a5 : A5) (a6 : A6) (a7 : A7) (a8 : A8) (a9 : A9) (k : A1 → A2 → A3 → A4 → A5 → A6 → A7 → A8 → A9 → Option ρ) : bd9 (some (a1, a2, a3, a4, a5, a6, a7, a8, a9)) k = k a1 a2 a3 a4 a5 a6 a7 a8 a9 := rfl
theorem bd10_ok {A1 A2 A3 A4 A5 A6 A7 A8 A9 A10 ρ : Type} (a1 : A1) (a2 : A2) (a3 : A3) (a4 : A4) (a5 : A5) (a6 : A6) (a7 : A7) (a8 : A8) (a9 : A9) (a10 : A10) (k : A1 → A2 → A3 → A4 → A5 → A6 → A7 → A8 → A9 → A10 → Option ρ) : bd10 (some (a1, a2, a3, a4, a5, a6, a7, a8, a9, a10)) k = k a1 a2 a3 a4 a5 a6 a7 a8 a9 a10 := rfl
theorem bd11_ok {A1 A2 A3 A4 A5 A6 A7 A8 A9 A10 A11 ρ : Type} (a1 : A1) (a2 : A2) (a3 : A3) (a4 : A4) (a5 : A5) (a6 : A6) (a7 : A7) (a8 : A8) (a9 : A9) (a10 : A10) (a11 : A11) (k : A1 → A2 → A3 → A4 → A5 → A6 → A7 → A8 → A9 → A10 → A11 → Option ρ) : bd11 (some (a1, a2, a3, a4, a5, a6, a7, a8, a9, a10, a11)) k = k a1 a2 a3 a4 a5 a6 a7 a8 a9 a10 a11 := rfl
theorem bd12_ok {A1 A2 A3 A4 A5 A6 A7 A8 A9 A10 A11 A12 ρ : Type} (a1 : A1) (a2 : A2) (a3 : A3) (a4 : A4) (a5 : A5) (a6 : A6) (a7 : A7) (a8 : A8) (a9 : A9) (a10 : A10) (a11 : A11) (a12 : A12) (k : A1 → A2 → A3 → A4 → A5 → A6 → A7 → A8 → A9 → A10 → A11 → A12 → Option ρ) : bd12 (some (a1, a2, a3, a4, a5, a6, a7, a8, a9, a10, a11, a12)) k = k a1 a2 a3 a4 a5 a6 a7 a8 a9 a10 a11 a12 := rfl
/-! permits on both sides -/
def HP (n g : Nat) (hol mho mih : Nat → Int32) : Prop := g ≤ 10 ∧ ∀ p, p < g → hol p = hmM mho mih p ∧ inN n (mho p) ∧ ¬ mho p = 0
theorem HP.h {n g : Nat} {hol mho mih : Nat → Int32} (h : HP n g hol mho mih) : orF (hmM mho mih) g = orF hol g := orF_c g (fun p hp => (h.2 p hp).1.symm)
theorem HP.i {n g : Nat} {hol mho mih : Nat → Int32} (h : HP n g hol mho mih) : inN n (orF (hmM mho mih) g) := fun v hv => by
  obtain ⟨p, hp, h1⟩ := (orF_bt g).mp hv
  unfold hmM at h1
  split at h1
  · rw [b_0] at h1; cases h1
  · exact (h.2 p hp).2.1 v h1
section ACTS
variable {n k : Nat} {a b : Nat → Nat} {ends one oth isb : Nat → Int32} {br so lo c e o : Int32} {N d r g q w : Nat} {hol mho mih dac log rac seq : Nat → Int32}
/-- an act that is asked: the program's doAndLog, the reference's acts -/
theorem do2 {ac ae ao th wr : Int32} (hC : HC n k a b ends one oth isb br) (hH : HS n k a b so lo c e o) (hP : HP n g hol mho mih) (hA : ACT n k q w) (hd : d < 200) (hN : 40 ≤ N) :
    ∃ v x y z, (v = 0 → HS n k a b so lo (flC q c w) (flE q e w) (flO q o w) ∧ fX4_doAndLog N (nI n) (nI k) br so lo ends c e o (nI d) dac (nI g) hol ac ae ao (nI (100 * q + w)) = some (0, flC q c w, flE q e w, flO q o w, nI (d + 1), upd dac d (nI (100 * q + w)), x, y, z) ∧
        fX5_acts N th (nI n) (nI k) so lo c e o (nI d) wr (nI g) one oth isb log mho mih (nI q) (nI w) = some (0, flC q c w, flE q e w, flO q o w, nI (d + 1), upd log d (nI (100 * q + w)))) ∧
      (¬ v = 0 → fX4_doAndLog N (nI n) (nI k) br so lo ends c e o (nI d) dac (nI g) hol ac ae ao (nI (100 * q + w)) = some (v, c, e, o, nI d, dac, x, y, z) ∧
        fX5_acts N th (nI n) (nI k) so lo c e o (nI d) wr (nI g) one oth isb log mho mih (nI q) (nI w) = some (v, c, e, o, nI d, log)) := by
  obtain ⟨hG, he, h1, h2, hb⟩ := hC
  have hw := hA.w32 hG
  have hq := hA.1
  obtain ⟨x, y, z, eR⟩ := c_reason (N := N) (hol := hol) (br := br) (ac := ac) (ae := ae) (ao := ao) hG he hH hA hP.1 hN
  have eW := m_why (N := N) (th := th) (lg := nI d) (wr := wr) hG h1 h2 hb hH hA hP.1 hP.i hN
  rw [hP.h] at eW
  unfold fX4_doAndLog fX5_acts
  rw [c_kind hq hw, bd1_ok, c_what hq hw, bd1_ok, eR, bd4_ok, eW, bd4_ok]
  refine ⟨VAL k a b br so lo c e o (orF hol g) q w, x, y, z, fun hv => ?_, fun hv => ?_⟩
  · have r1 := (RSN_z hv).1
    rw [hv]
    refine ⟨HS_go hG hH hA hv, ?_, ?_⟩
    · rw [if_pos rfl, bd1_ok, bd1_ok, c_flip hq, bd3_ok, c_append hd (Nat.le_refl _), bd2_ok]
    · rw [if_pos rfl, m_does hq hw r1, bd3_ok, gin_ok hd (by omega), nI_1, nI_j (by omega), a_of q (by omega) w hw]
  · rw [if_neg hv, if_neg hv]
    exact ⟨rfl, rfl⟩
theorem op_act {ac ae ao th wr p0 p1 : Int32} {out : Nat → Int64} (hC : HC n k a b ends one oth isb br) (hH : HS n k a b so lo c e o) (hP : HP n g hol mho mih) (hd : d ≤ 200) (hR : RW n k d dac log) (hN : 40 ≤ N) :
    ∃ code v out' c' e' o' d' dac' log' x y z, fL_act N (nI n) (nI k) br so lo ends c e o (nI d) dac (nI g) hol ac ae ao out p0 p1 = some (code, c', e', o', nI d', dac', x, y, z, out') ∧
      fX5_act N th (nI n) (nI k) so lo c e o (nI d) wr (nI g) one oth isb log mho mih p0 p1 = some (v, code, c', e', o', nI d', log') ∧ OK1 code v out' ∧ HS n k a b so lo c' e' o' ∧ d' ≤ 200 ∧ RW n k d' dac' log' := by
  have hG := hC.1
  unfold fL_act fX4_act fX5_act fX0_size
  simp only [jn6]
  rcases ask2 (N := N) (br := br) (so := so) (lo := lo) (th := th) (so' := so) (lo' := lo) (cl := c) (ea := e) (on := o) (lg := nI d) (wr := wr) (pe := nI g) (p0 := p0) (p1 := p1) hG.1 hG.2.1 with ⟨q, w, hA, rfl, rfl, e1, e2⟩ | ⟨e1, e2⟩ | ⟨e1, e2⟩
  · have hw := hA.w32 hG
    rw [e1, e2, bd2_ok, c_actOf hA.1 hw, bd1_ok, bd1_ok, if_neg (show ¬ (1 : Int32) = 0 by decide)]
    have e30 : nI d = 200 ↔ d = 200 := nI_eq (b := 200) (by omega) (by omega)
    have l30 : nI d < 200 ↔ d < 200 := nI_ltI (b := 200) (by omega) (by omega)
    by_cases h30 : d = 200
    · rw [if_pos (e30.mpr h30), if_neg (fun z => by have := l30.mp z; omega), if_neg (show ¬ (3 : Int32) ≤ 0 by decide)]
      exact ⟨3, _, out, c, e, o, d, dac, log, ac, ae, ao, by simp [bh9, bx0], rfl, fun z => absurd z (by decide), hH, hd, hR⟩
    · rw [if_neg (fun z => h30 (e30.mp z)), if_pos (l30.mpr (by omega)), if_pos (show (0 : Int32) ≤ 0 by decide)]
      obtain ⟨v, x, y, z, k1, k2⟩ := do2 (N := N) (dac := dac) (log := log) (ac := ac) (ae := ae) (ao := ao) (th := 0) (wr := wr) hC hH hP hA (show d < 200 by omega) hN
      by_cases hv : v = 0
      · obtain ⟨i1, i2, i3⟩ := k1 hv
        rw [i2, i3, bd9_ok, bd6_ok]
        exact ⟨0, _, _, _, _, _, d + 1, _, _, _, _, _, rfl, rfl, fun _ => by rw [updL0], i1, by omega, RW_app hR ⟨q, w, hA, rfl⟩⟩
      · obtain ⟨i2, i3⟩ := k2 hv
        rw [i2, i3, bd9_ok, bd6_ok]
        exact ⟨0, _, _, _, _, _, d, _, _, _, _, _, rfl, rfl, fun _ => by rw [updL0], hH, hd, hR⟩
  · rw [e1, e2]
    exact ⟨1, _, out, c, e, o, d, dac, log, ac, ae, ao, by simp [bh9, bx0], rfl, fun z => absurd z (by decide), hH, hd, hR⟩
  · rw [e1, e2]
    exact ⟨2, _, out, c, e, o, d, dac, log, ac, ae, ao, by simp [bh9, bx0], rfl, fun z => absurd z (by decide), hH, hd, hR⟩
theorem op_reason {ac ae ao th lg wr p0 p1 : Int32} {out : Nat → Int64} (hC : HC n k a b ends one oth isb br) (hH : HS n k a b so lo c e o) (hP : HP n g hol mho mih) (hN : 40 ≤ N) :
    ∃ code v out' x y z, fL_reason N (nI n) (nI k) br so lo ends c e o (nI g) hol ac ae ao out p0 p1 = some (code, x, y, z, out') ∧
      fX5_reason N th (nI n) (nI k) so lo c e o lg wr (nI g) one oth isb mho mih p0 p1 = some (v, code, c, e, o) ∧ OK1 code v out' := by
  obtain ⟨hG, he, h1, h2, hb⟩ := hC
  unfold fL_reason fX4_reason fX5_reason
  rcases ask2 (N := N) (br := br) (so := so) (lo := lo) (th := th) (so' := so) (lo' := lo) (cl := c) (ea := e) (on := o) (lg := lg) (wr := wr) (pe := nI g) (p0 := p0) (p1 := p1) hG.1 hG.2.1 with ⟨q, w, hA, rfl, rfl, e1, e2⟩ | ⟨e1, e2⟩ | ⟨e1, e2⟩
  · obtain ⟨x, y, z, eR⟩ := c_reason (N := N) (hol := hol) (br := br) (ac := ac) (ae := ae) (ao := ao) hG he hH hA hP.1 hN
    have eW := m_why (N := N) (th := 0) (lg := lg) (wr := wr) hG h1 h2 hb hH hA hP.1 hP.i hN
    rw [hP.h] at eW
    rw [e1, e2, bd2_ok, eR, bd4_ok, if_neg (show ¬ (1 : Int32) = 0 by decide), eW, bd4_ok]
    exact ⟨0, _, _, _, _, _, rfl, rfl, fun _ => by rw [updL0]⟩
  · rw [e1, e2]
    exact ⟨1, _, out, ac, ae, ao, by simp [bh4, bx0], rfl, fun z => absurd z (by decide)⟩
  · rw [e1, e2]
    exact ⟨2, _, out, ac, ae, ao, by simp [bh4, bx0], rfl, fun z => absurd z (by decide)⟩
theorem op_takeBack {ac ae ao th wr : Int32} {out : Nat → Int64} (hC : HC n k a b ends one oth isb br) (hH : HS n k a b so lo c e o) (hP : HP n g hol mho mih) (hd : d ≤ 200) (hR : RW n k d dac log) (hN : 40 ≤ N) :
    ∃ code v out' c' e' o' d' x y z, fL_takeBack N (nI n) (nI k) br so lo ends c e o (nI d) dac (nI g) hol ac ae ao out = some (code, c', e', o', nI d', x, y, z, out') ∧
      fX5_takeBack N th (nI n) (nI k) so lo c e o (nI d) wr (nI g) one oth isb log mho mih = some (v, code, c', e', o', nI d') ∧ OK1 code v out' ∧ HS n k a b so lo c' e' o' ∧ d' ≤ d := by
  obtain ⟨hG, he, h1, h2, hb⟩ := hC
  unfold fL_takeBack fX4_takeBack fX5_takeBack fX0_size
  simp only [jn1]
  cases d with
  | zero =>
    rw [nI_0, bd1_ok, if_pos rfl, if_pos rfl, if_neg (by decide)]
    exact ⟨1, _, out, c, e, o, 0, ac, ae, ao, by simp [bh8, nI_0], rfl, fun z => absurd z (by decide), hH, Nat.le_refl _⟩
  | succ m =>
    have hne : ¬ nI (m + 1) = 0 := nI_ne0 (by omega) (by omega)
    have eL : fX0_latest N (nI (m + 1)) 200 dac 0 = some (dac m) := c_latest (i := 0) (by omega) hd (Nat.le_refl _)
    obtain ⟨r1, q, w, hA, r2⟩ := hR m (by omega)
    have hw := hA.w32 hG
    have hq := hA.1
    have hA' := hA.op
    have hq' := hA'.1
    rw [bd1_ok, if_neg hne, if_neg hne, if_pos (show (0 : Int32) ≤ 0 by decide), eL, bd1_ok, nI_pred, gin_ok (by omega) (by omega), nI_j (by omega), ← r1, r2, c_opp hq hw, bd1_ok, m_opp hq hw, bd1_ok, c_kind hq' hw, bd1_ok, c_what hq' hw, bd1_ok, a_w (opp q) (by omega) w hw, a_q (opp q) (by omega) w hw]
    obtain ⟨x, y, z, eR⟩ := c_reason (N := N) (hol := hol) (br := br) (ac := ac) (ae := ae) (ao := ao) hG he hH hA' hP.1 hN
    have eW := m_why (N := N) (th := 0) (lg := nI (m + 1)) (wr := wr) hG h1 h2 hb hH hA' hP.1 hP.i hN
    rw [hP.h] at eW
    rw [eR, bd4_ok, eW, bd4_ok]
    by_cases hv : VAL k a b br so lo c e o (orF hol g) (opp q) w = 0
    · rw [hv, if_pos rfl, if_pos rfl, bd1_ok, bd1_ok, c_flip hq', bd3_ok, m_does hq' hw (RSN_z hv).1, bd3_ok]
      refine ⟨0, 0, vp_updL out (0 : Int32).toNatClampNeg (0 : Int32).toInt64, _, _, _, m, x, y, z, ?_, rfl, fun _ => updL0, HS_go hG hH hA' hv, by omega⟩
      unfold fX0_dropLast
      rw [bd1_ok, nI_pred]
      rfl
    · rw [if_neg hv, if_neg hv]
      exact ⟨0, _, _, c, e, o, m + 1, x, y, z, rfl, rfl, fun _ => updL0, hH, Nat.le_refl _⟩
end ACTS
