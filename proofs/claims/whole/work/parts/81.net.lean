section NETO
variable {n k : Nat} {a b : Nat → Nat} {ends one oth isb : Nat → Int32} {br so lo c e o : Int32} {N d r g q w : Nat} {hol mho mih dac log rac seq : Nat → Int32}
theorem op_permit {th lg wr p : Int32} {out : Nat → Int64} (hC : HC n k a b ends one oth isb br) (hH : HS n k a b so lo c e o) (hP : HP n g hol mho mih) (hN : 40 ≤ N) :
    ∃ code v out' g' hol' mho' mih', fL_permit N (nI n) (nI k) br so lo ends c e o (nI g) hol out p = some (code, hol', nI g', out') ∧
      fX5_permit N th (nI n) (nI k) so lo c e o lg wr (nI g) one oth mho mih p = some (v, code, mho', nI g', mih') ∧ OK1 code v out' ∧ HP n g' hol' mho' mih' := by
  obtain ⟨hG, he, h1, h2, hb⟩ := hC
  have hie := hH.2.2.2.1
  have hio := hH.o
  have hg := hP.1
  obtain ⟨m1, m2, m3⟩ := m_permit (N := N) (g := g) (mho := mho) (mih := mih) (c := c) (e := e) (o := o) (th := th) (so' := so) (lo' := lo) (lg := lg) (wr := wr) (p := p) hG h1 h2 hie hio hg hN
  rw [hP.h] at m2 m3
  unfold fL_permit fX4_permit fX1_allNodes fX2_given fX2_give
  rw [bd1_ok]
  by_cases hp : ¬ p = 0 ∧ inN n p
  · rw [if_neg hp.1, if_pos ((rng2 hG.1).mpr hp.2), c_can hG he hie hio hg hN, bd1_ok]
    by_cases hk : g < 10 ∧ SFE k a b c e o p ∧ p &&& orF hol g = 0
    · rw [m3 hp hk, if_neg (fun z => bI_z.mp z hk.2), bd1_ok, if_pos (show nI g < 10 from nI_lt (b := 10) hk.1 (by omega)), gin_ok hk.1 (by omega), bd3_ok, nI_1, nI_j (by omega)]
      refine ⟨0, _, _, g + 1, upd hol g p, _, _, rfl, rfl, fun _ => updL0, hk.1, fun j hj => ?_⟩
      by_cases z : j = g
      · rw [z, upd_s, upd_s]
        unfold hmM
        rw [upd_s, upd_s, if_neg (by decide)]
        exact ⟨rfl, hp.2, hp.1⟩
      · have := hP.2 j (by omega)
        rw [upd_o z, upd_o z]
        unfold hmM
        rw [upd_o z, upd_o z]
        exact this
    · rw [m2 hp hk]
      refine ⟨2, _, out, g, hol, _, _, ?_, rfl, fun z => absurd z (by decide), hP⟩
      by_cases hs : SFE k a b c e o p ∧ p &&& orF hol g = 0
      · rw [if_neg (fun z => bI_z.mp z hs), bd1_ok, if_neg (show ¬ nI g < 10 from fun z => hk ⟨(nI_ltI (b := 10) (by omega) (by omega)).mp z, hs⟩)]
        simp [bh3]
      · rw [if_pos (bI_z.mpr hs)]
        simp [bh3]
  · rw [m1 hp]
    refine ⟨1, _, out, g, hol, _, _, ?_, rfl, fun z => absurd z (by decide), hP⟩
    by_cases h0 : p = 0
    · rw [if_pos h0]
      simp [bh3]
    · rw [if_neg h0, if_neg (fun z => hp ⟨h0, (rng2 hG.1).mp z⟩)]
      simp [bh3]
theorem op_handBack {th nd sw so lo cl ea on lg wr p : Int32} {out : Nat → Int64} (hP : HP n g hol mho mih) (hN : 40 ≤ N) :
    ∃ code v out' hol' mih', fL_handBack N (nI g) hol out p = some (code, hol', out') ∧
      fX5_handBack N th nd sw so lo cl ea on lg wr (nI g) mih p = some (v, code, mih') ∧ OK1 code v out' ∧ HP n g hol' mho mih' := by
  have hg := hP.1
  unfold fL_handBack fX4_handBack fX5_handBack fX2_given fX2_isHeld fX2_release
  rw [m_in (by omega), bd1_ok, bd1_ok]
  simp only [jn1]
  rcases nin_c p g (by omega) with ⟨h, h1, h2⟩ | ⟨h, h1⟩ | ⟨h, h1, h2⟩
  · obtain ⟨j, hj, rfl⟩ := id h
    have hz : hol j = 0 ↔ mih j = 0 := by
      have := hP.2 j hj
      rw [this.1]
      unfold hmM
      split
      · simp [*]
      · simp [*]
    rw [if_neg h1, if_pos (nI_lt hj (by omega)), if_neg (fun z => bI_z.mp z h)]
    simp only [gin_ok (show j < 10 by omega) (show 10 < 2 ^ 31 by omega), nI_j (show j < 2 ^ 31 by omega)]
    by_cases hh : hol j = 0
    · rw [if_pos hh, if_pos (hz.mp hh), bd1_ok, if_pos rfl, if_neg (by decide)]
      exact ⟨2, _, out, hol, mih, by simp [bh2], rfl, fun z => absurd z (by decide), hP⟩
    · rw [if_neg hh, if_neg (fun z => hh (hz.mpr z)), bd1_ok, if_neg (by decide), if_pos (by decide), bd1_ok, c_count hg hN, bd1_ok, nar0, m_count hg hN]
      have hP' : HP n g (upd hol j 0) mho (upd mih j 0) := ⟨hg, fun i hi => by
        have := hP.2 i hi
        refine ⟨?_, this.2⟩
        by_cases z : i = j
        · rw [z, upd_s]
          unfold hmM
          rw [upd_s, if_pos rfl]
        · rw [upd_o z, this.1]
          unfold hmM
          rw [upd_o z]⟩
      refine ⟨0, _, _, _, _, rfl, rfl, fun _ => ?_, hP'⟩
      rw [updL0, ctN_c (q := fun i => decide (¬ upd mih j 0 i = 0)) g (fun i hi => ?_)]
      have := hP'.2 i hi
      have hz : upd hol j 0 i = 0 ↔ upd mih j 0 i = 0 := by
        rw [this.1]
        unfold hmM
        split
        · simp [*]
        · simp [*]
      simp [hz]
  · rw [if_pos h1, if_pos (bI_z.mpr h), if_neg (by decide)]
    exact ⟨1, _, out, hol, mih, by simp [bh2], rfl, fun z => absurd z (by decide), hP⟩
  · rw [if_neg h1, if_neg (fun z => by
      obtain ⟨j, hj, e⟩ := nI_of h1
      rw [e] at z h2
      have := (nI_ltI hj (by omega)).mp z
      have := (nI_leI (by omega) hj).mp h2
      omega), if_pos (bI_z.mpr h), if_neg (by decide)]
    exact ⟨1, _, out, hol, mih, by simp [bh2], rfl, fun z => absurd z (by decide), hP⟩
theorem op_isClosed {nc br so lo e o th nd so' lo' ea on lg wr pe p : Int32} {out : Nat → Int64} (hk : k ≤ 24) :
    ∃ code v out', fL_isClosed N nc (nI k) br so lo c e o out p = some (code, out') ∧ fX5_isClosed N th nd (nI k) so' lo' c ea on lg wr pe p = some (v, code) ∧ (code = 0 → (v = 0 → out' (0 : Int32).toNatClampNeg = 0) ∧ (¬ v = 0 → out' (0 : Int32).toNatClampNeg = 1)) := by
  unfold fL_isClosed fX4_isClosed fX5_isClosed fX3_isOn
  rw [c_hasSwitch (by omega), bd1_ok, m_isSwitch (by omega), bd1_ok]
  simp only [jn1]
  by_cases h : NIN k p
  · obtain ⟨j, hj, rfl⟩ := id h
    rw [if_neg (fun z => bI_z.mp z h), if_neg (fun z => bI_z.mp z h), if_neg (show ¬ (1 : Int32) = 0 by decide), if_pos trivial, if_pos trivial, tst0 (by omega), bd1_ok, gd_ok bI_bz, p_has (by omega), bd1_ok]
    by_cases hb : bt c j = true
    · rw [if_pos hb, bI_1 hb]
      exact ⟨0, _, _, rfl, rfl, fun _ => ⟨fun z => absurd z (by decide), fun _ => updL0⟩⟩
    · rw [if_neg hb, bI_0 hb]
      exact ⟨0, _, _, rfl, rfl, fun _ => ⟨fun _ => updL0, fun z => absurd rfl z⟩⟩
  · rw [if_pos (bI_z.mpr h), if_pos (bI_z.mpr h), if_neg (by decide)]
    exact ⟨1, _, out, by simp [bh1], rfl, fun z => absurd z (by decide)⟩
theorem op_part {br so lo e o th so' lo' ea on lg wr pe p : Int32} {out : Nat → Int64} (hG : GR n k a b) (he : ∀ s, s < k → ends s = edg a b s) (h1 : ∀ s, s < k → one s = nI (a s)) (h2 : ∀ s, s < k → oth s = nI (b s)) (hN : 40 ≤ N) :
    ∃ code v out', fL_part N (nI n) (nI k) br so lo ends c e o out p = some (code, out') ∧ fX5_part N th (nI n) (nI k) so' lo' c ea on lg wr pe one oth p = some (v, code) ∧ OK1 code v out' := by
  have hn := hG.1
  unfold fL_part fX4_part fX5_part
  rw [m_isNode (by omega), bd1_ok]
  simp only [jn1]
  rcases c_reqN (N := N) (n := n) (sc := nI k) (br := br) (so := so) (lo := lo) (p := p) (by omega) with ⟨h, e1⟩ | ⟨h, e1⟩
  · obtain ⟨j, hj, rfl⟩ := id h
    rw [e1, if_neg (fun z => bI_z.mp z h), if_pos (by decide), p_cw hG he (q_bitN hn hj) hN, bd1_ok, p_po hG h1 h2 hj hN, bd1_ok]
    exact ⟨0, _, _, rfl, rfl, fun _ => updL0⟩
  · rw [e1, if_pos (bI_z.mpr h), if_neg (by decide)]
    exact ⟨1, _, out, by simp [bh1, bx0], rfl, fun z => absurd z (by decide)⟩
end NETO
