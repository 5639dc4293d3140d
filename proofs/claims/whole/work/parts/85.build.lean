section BUILD
variable {n k : Nat} {a b : Nat → Nat} {ends one oth isb : Nat → Int32} {br so lo c e o : Int32} {N d r g q w : Nat} {hol mho mih dac log rac seq : Nat → Int32}
theorem inN_m {m : Nat} {S : Int32} (h : inN n S) (hm : n ≤ m) : inN m S := fun v hv => Nat.lt_of_lt_of_le (h v hv) hm
theorem ACT.m {n' k' : Nat} (h : ACT n k q w) (hn : n ≤ n') (hk : k ≤ k') : ACT n' k' q w := ⟨h.1, fun z => Nat.lt_of_lt_of_le (h.2.1 z) hk, fun z => Nat.lt_of_lt_of_le (h.2.2 z) hn⟩
theorem RW_m {n' k' d : Nat} {f h : Nat → Int32} (hR : RW n k d f h) (hn : n ≤ n') (hk : k ≤ k') : RW n' k' d f h := fun j hj => by
  obtain ⟨h1, q, w, hA, h2⟩ := hR j hj
  exact ⟨h1, q, w, hA.m hn hk, h2⟩
theorem HP_m {n' : Nat} (h : HP n g hol mho mih) (hn : n ≤ n') : HP n' g hol mho mih := ⟨h.1, fun p hp => ⟨(h.2 p hp).1, inN_m (h.2 p hp).2.1 hn, (h.2 p hp).2.2⟩⟩
theorem add_in {S p : Int32} (hS : inN n S) (hn : n < 16) : inN (n + 1) (S ||| (if p = 0 then 0 else ((1 : Int32) <<< (nI n &&& 31)))) := fun v hv => by
  rw [b_or, Bool.or_eq_true] at hv
  rcases hv with z | z
  · have := hS v z; omega
  · split at z
    · rw [b_0] at z; cases z
    · have := (q_bitT (by omega)).mp z
      omega
theorem add_in2 {S p : Int32} (hS : inN k S) (hn : k < 24) : inN (k + 1) (S ||| (if p = 0 then 0 else ((1 : Int32) <<< (nI k &&& 31)))) := fun v hv => by
  rw [b_or, Bool.or_eq_true] at hv
  rcases hv with z | z
  · have := hS v z; omega
  · split at z
    · rw [b_0] at z; cases z
    · have := (q_bitT (by omega)).mp z
      omega
theorem op_addNode {th cl ea on lg wr pe p0 p1 : Int32} {out : Nat → Int64} (hC : HC n k a b ends one oth isb br) (hH : HS n k a b so lo c e o) :
    ∃ code v out' n' so' lo', fL_addNode N (nI n) (nI k) br so lo out p0 p1 = some (code, nI n', so', lo', out') ∧
      fX5_addNode N th (nI n) (nI k) so lo cl ea on lg wr pe p0 p1 = some (v, code, nI n', so', lo') ∧ OK1 code v out' ∧ HC n' k a b ends one oth isb br ∧ HS n' k a b so' lo' c e o ∧ n ≤ n' := by
  obtain ⟨⟨hn, hk, hs⟩, hC'⟩ := id hC
  obtain ⟨i1, i2, i3, i4, i5, i6⟩ := id hH
  have e16 : nI n = 16 ↔ n = 16 := nI_eq (b := 16) (by omega) (by omega)
  have l16 : nI n < 16 ↔ n < 16 := nI_ltI (b := 16) (by omega) (by omega)
  by_cases h : n = 16
  · refine ⟨1, 0, out, n, so, lo, ?_, ?_, fun z => absurd z (by decide), hC, hH, Nat.le_refl _⟩
    · unfold fL_addNode fX4_addNode fX1_nodeCount
      rw [bd1_ok, if_neg (fun z => by have := l16.mp z; omega)]
      simp [bh4]
    · unfold fX5_addNode
      simp only [jn1]
      rw [if_pos (e16.mpr h), if_neg (by decide)]
  · refine ⟨0, nI n, vp_updL out (0 : Int32).toNatClampNeg (nI n).toInt64, n + 1, so ||| (if p0 = 0 then 0 else ((1 : Int32) <<< (nI n &&& 31))), lo ||| (if p1 = 0 then 0 else ((1 : Int32) <<< (nI n &&& 31))), ?_, ?_, fun _ => updL0, ⟨⟨by omega, hk, fun s hs' => ⟨by have := (hs s hs').1; omega, by have := (hs s hs').2.1; omega, (hs s hs').2.2⟩⟩, hC'⟩, ⟨add_in i1 (by omega), add_in i2 (by omega), i3, inN_m i4 (by omega), fun v hv => ?_, i6⟩, by omega⟩
    · unfold fL_addNode fX4_addNode fX1_nodeCount fX1_appendNode
      simp only [jn1]
      rw [bd1_ok, if_pos (l16.mpr (by omega)), nI_1]
      by_cases h0 : p0 = 0
      · by_cases h1 : p1 = 0
        · simp only [if_pos h0, if_pos h1]; rfl
        · simp only [if_pos h0, if_neg h1]; rfl
      · by_cases h1 : p1 = 0
        · simp only [if_neg h0, if_pos h1]; rfl
        · simp only [if_neg h0, if_neg h1]; rfl
    · unfold fX5_addNode
      simp only [jn1]
      rw [if_neg (fun z => h (e16.mp z)), if_pos (by decide), nI_1, nI_pred]
      by_cases h0 : p0 = 0
      · by_cases h1 : p1 = 0
        · simp only [if_pos h0, if_pos h1]
        · simp only [if_pos h0, if_neg h1]
      · by_cases h1 : p1 = 0
        · simp only [if_neg h0, if_pos h1]
        · simp only [if_neg h0, if_neg h1]
    · rw [b_or, Bool.or_eq_true]
      exact Or.inl (i5 v hv)
theorem cn_new {a' b' : Nat → Nat} (hc : inN k c) (ha : ∀ s, s < k → a' s = a s) (hb : ∀ s, s < k → b' s = b s) : cn (k + 1) a' b' c = cn k a b c := by
  funext u v
  refine propext ⟨fun h P hP => h P (fun s hs hb' => ?_), fun h P hP => h P (fun s hs hb' => ?_)⟩
  · have := hc s hb'
    rw [ha s this, hb s this]
    exact hP s this hb'
  · have := hP s (by omega) hb'
    rw [ha s hs, hb s hs] at this
    exact this
theorem op_addSwitch {th lg wr pe p0 p1 p2 : Int32} {out : Nat → Int64} (hC : HC n k a b ends one oth isb br) (hH : HS n k a b so lo c e o) (hB : inN k br) (hp : p2 = 0 ∨ p2 = 1) :
    ∃ code v out' k' a' b' ends' br' one' oth' isb', fL_addSwitch N (nI n) (nI k) br so lo ends out p0 p1 p2 = some (code, ends', nI k', br', out') ∧
      fX5_addSwitch N th (nI n) (nI k) so lo c e o lg wr pe one oth isb p0 p1 p2 = some (v, code, one', oth', isb', nI k') ∧ OK1 code v out' ∧ HC n k' a' b' ends' one' oth' isb' br' ∧ HS n k' a' b' so lo c e o ∧ inN k' br' ∧ k ≤ k' := by
  obtain ⟨⟨hn, hk, hs⟩, hC1, hC2, hC3, hC4⟩ := id hC
  obtain ⟨i1, i2, i3, i4, i5, i6⟩ := id hH
  have e24 : nI k = 24 ↔ k = 24 := nI_eq (b := 24) (by omega) (by omega)
  have l24 : nI k < 24 ↔ k < 24 := nI_ltI (b := 24) (by omega) (by omega)
  unfold fL_addSwitch fX4_addSwitch fX5_addSwitch fX1_switchCount
  rw [m_isNode (by omega), m_isNode (by omega), bd1_ok, bd1_ok]
  simp only [jn1]
  rcases c_reqN (N := N) (n := n) (sc := nI k) (br := br) (so := so) (lo := lo) (p := p0) (by omega) with ⟨h0, e0⟩ | ⟨h0, e0⟩
  · rw [e0, if_neg (fun z => bI_z.mp z h0)]
    rcases c_reqN (N := N) (n := n) (sc := nI k) (br := br) (so := so) (lo := lo) (p := p1) (by omega) with ⟨h1, e1⟩ | ⟨h1, e1⟩
    · rw [e1, bd1_ok, if_neg (fun z => bI_z.mp z h1)]
      by_cases h2 : p0 = p1
      · rw [if_pos h2, if_pos h2, if_neg (by decide)]
        exact ⟨2, _, out, k, a, b, ends, br, _, _, _, by simp [bh4, bx0], rfl, fun z => absurd z (by decide), hC, hH, hB, Nat.le_refl _⟩
      · rw [if_neg h2, if_neg h2]
        by_cases h3 : k = 24
        · rw [if_pos (e24.mpr h3), if_neg (fun z => by have := l24.mp z; omega), if_neg (by decide)]
          exact ⟨3, _, out, k, a, b, ends, br, _, _, _, by simp [bh4, bx0], rfl, fun z => absurd z (by decide), hC, hH, hB, Nat.le_refl _⟩
        · obtain ⟨u, hu, rfl⟩ := h0
          obtain ⟨v, hv, rfl⟩ := h1
          have huv : u ≠ v := fun z => h2 (by rw [z])
          rw [if_neg (fun z => h3 (e24.mp z)), if_pos (l24.mpr (by omega)), if_pos (by decide), nI_1, nI_pred]
          unfold fX1_appendSwitch
          simp only [jn1, gin_ok (show k < 24 by omega) (show 24 < 2 ^ 31 by omega), nI_j (show k < 2 ^ 31 by omega), nI_1]
          have ea : ∀ s, s < k → (fun s => if s = k then u else a s) s = a s := fun s hs => if_neg (by omega)
          have eb : ∀ s, s < k → (fun s => if s = k then v else b s) s = b s := fun s hs => if_neg (by omega)
          have eN := cn_new (c := c) (a := a) (b := b) (a' := fun s => if s = k then u else a s) (b' := fun s => if s = k then v else b s) i3 ea eb
          have eCL : ∀ S, CL (k + 1) (fun s => if s = k then u else a s) (fun s => if s = k then v else b s) c S = CL k a b c S := fun S => by unfold CL; rw [eN]
          refine ⟨0, nI k, vp_updL out (0 : Int32).toNatClampNeg (nI k).toInt64, k + 1, fun s => if s = k then u else a s, fun s => if s = k then v else b s, upd ends k (((1 : Int32) <<< (nI u &&& 31)) ||| ((1 : Int32) <<< (nI v &&& 31))), br ||| (if p2 = 0 then 0 else ((1 : Int32) <<< (nI k &&& 31))), upd one k (nI u), upd oth k (nI v), upd isb k p2, ?_, ?_, fun _ => updL0, ⟨⟨hn, by omega, fun s hs' => ?_⟩, fun s hs' => ?_, fun s hs' => ?_, fun s hs' => ?_, fun s hs' => ?_⟩, ⟨i1, i2, inN_m i3 (by omega), i4, i5, fun x => by rw [eCL, eCL]; exact i6 x⟩, add_in2 hB (by omega), by omega⟩
          · rcases hp with rfl | rfl
            · rfl
            · rfl
          · rcases hp with rfl | rfl
            · rfl
            · rfl
          · by_cases z : s = k
            · simp only [if_pos z]; exact ⟨hu, hv, huv⟩
            · simp only [if_neg z]; exact hs s (by omega)
          · unfold edg
            by_cases z : s = k
            · simp only [if_pos z]; rw [z, upd_s]
            · simp only [if_neg z]; rw [upd_o z]; exact hC1 s (by omega)
          · by_cases z : s = k
            · simp only [if_pos z]; rw [z, upd_s]
            · simp only [if_neg z]; rw [upd_o z]; exact hC2 s (by omega)
          · by_cases z : s = k
            · simp only [if_pos z]; rw [z, upd_s]
            · simp only [if_neg z]; rw [upd_o z]; exact hC3 s (by omega)
          · by_cases z : s = k
            · have hbk : bt br k = false := bF.mp (fun y => by have := hB k y; omega)
              rw [z, upd_s, b_or, hbk]
              rcases hp with rfl | rfl
              · rw [if_pos rfl, b_0]; simp
              · rw [if_neg (by decide), q_bit (by omega)]; simp
            · rw [upd_o z, hC4 s (by omega), b_or]
              have : bt (if p2 = 0 then 0 else ((1 : Int32) <<< (nI k &&& 31))) s = false := by
                split
                · exact b_0 s
                · rw [q_bit (by omega)]; simp [z]
              rw [this, Bool.or_false]
    · rw [e1, bd1_ok, if_pos (bI_z.mpr h1), if_neg (show ¬ (1 : Int32) ≤ 0 by decide)]
      exact ⟨1, _, out, k, a, b, ends, br, _, _, _, by simp [bh4, bx0], rfl, fun z => absurd z (by decide), hC, hH, hB, Nat.le_refl _⟩
  · rw [e0, if_pos (bI_z.mpr h0), if_neg (show ¬ (1 : Int32) ≤ 0 by decide)]
    exact ⟨1, _, out, k, a, b, ends, br, _, _, _, by simp [bh4, bx0], rfl, fun z => absurd z (by decide), hC, hH, hB, Nat.le_refl _⟩
end BUILD
