section TOL
variable {n k : Nat} {a b : Nat → Nat} {ends one oth isb : Nat → Int32} {br so lo c e o : Int32} {N p : Nat}
theorem m_rounds {w : Nat → Int32} {f : Nat → Nat} (hG : GR n k a b) (h1 : ∀ s, s < k → one s = nI (a s)) (h2 : ∀ s, s < k → oth s = nI (b s)) (hp : p < n) (hN : 40 ≤ N) (hf : FA n w f) (hS : SND n k a b c p f) (h0 : f p = 0) :
    ∃ w' f', it2 (rndF N (nI n) (nI k) one oth c) N 0 w = some w' ∧ FA n w' f' ∧ SND n k a b c p f' ∧ ∀ v, v < n → stl k a b c p f' v := by
  have hn := hG.1
  have stp : ∀ f, f p = 0 → stl k a b c p f p := fun f hf i _ => by omega
  obtain ⟨y, ⟨f', i1, i2, i3, i4⟩, e⟩ := it2_inv (n := n) (F := rndF N (nI n) (nI k) one oth c) (fun t X => ∃ h, FA n X h ∧ SND n k a b c p h ∧ h p = 0 ∧ ((∀ v, v < n → stl k a b c p h v) ∨ t + 1 ≤ ctN (stB k a b c p h) n)) (fun X => some X) (by
    intro g X hX
    unfold rndF
    rw [if_pos (nI_le (Nat.le_refl n) (by omega))]) (by
    rintro g t X ht ⟨h, j1, j2, j3, j4⟩
    obtain ⟨w', f', e1, e2, e3, e4⟩ := m_edges (N := N) (one := one) (oth := oth) (E := fun w => g (nI t + 1) w) hG h1 h2 hp hN j1 j2
    refine ⟨w', ⟨f', e2, e3, by have := e4.1 p; omega, ?_⟩, ?_⟩
    · have mono : ∀ v, stl k a b c p h v → stl k a b c p f' v := fun v hv i hi => Nat.le_trans (e4.1 v) (hv i hi)
      rcases j4 with j4 | j4
      · exact Or.inl (fun v hv => mono v (j4 v hv))
      · by_cases q : ∀ v, v < n → stl k a b c p h v
        · exact Or.inl (fun v hv => mono v (q v hv))
        · have : ∃ v, v < n ∧ ¬ stl k a b c p h v := Classical.byContradiction (fun z => q (fun v hv => Classical.byContradiction (fun y => z ⟨v, hv, y⟩)))
          obtain ⟨v, hv, hu⟩ := this
          obtain ⟨x, x1, x2, x3⟩ := stl_more hG hp e4 j3 hv hu
          have := ctN_lt (p := stB k a b c p h) (q := stB k a b c p f') (fun i hi => stB_t.mpr (mono i (stB_t.mp hi))) (fun z => x2 (stB_t.mp z)) (stB_t.mpr x3) n x1
          exact Or.inr (by omega)
    · unfold rndF
      rw [if_neg (nI_gt ht (by omega))]
      show it2 (edgF N (nI k) one oth c (fun w => g (nI t + 1) w)) N 0 X = _
      rw [e1, nI_1]) N 0 w (Nat.zero_le _) (by omega) ⟨f, hf, hS, h0, Or.inr (ctN_pos (stB_t.mpr (stp f h0)) n hp)⟩
  rw [nI_0] at e
  refine ⟨y, f', e, i1, i2, ?_⟩
  rcases i4 with i4 | i4
  · exact i4
  · have := ctN_le (stB k a b c p f') n
    omega
theorem m_lay {th ea on lg wr pe : Int32} {far : Nat → Int32} (hG : GR n k a b) (h1 : ∀ s, s < k → one s = nI (a s)) (h2 : ∀ s, s < k → oth s = nI (b s)) (hp : p < n) (hN : 40 ≤ N) :
    ∃ w' f', fX5_laysFar N th (nI n) (nI k) so lo c ea on lg wr pe one oth far (nI p) = some w' ∧ FA n w' f' ∧ SND n k a b c p f' ∧ ∀ v, v < n → stl k a b c p f' v := by
  have hn := hG.1
  rw [lay_eq]
  obtain ⟨y, hy, e⟩ := it2_inv (n := n) (F := fun (g2_3 : Int32 → (Nat → Int32) → Option (Nat → Int32)) (x1 : Int32) (w2 : Nat → Int32) => (if nI n ≤ x1 then it2 (rndF N (nI n) (nI k) one oth c) N 0 w2 else (if x1 = nI p then gin x1 16 (g2_3 (x1 + 1) (upd w2 x1.toNatClampNeg 0)) else gin x1 16 (g2_3 (x1 + 1) (upd w2 x1.toNatClampNeg 1000))))) (fun i X => ∀ v, v < i → X v = nI (if v = p then 0 else 1000)) (fun X => it2 (rndF N (nI n) (nI k) one oth c) N 0 X) (by
    intro g X hX
    show (if nI n ≤ nI n then _ else _) = _
    rw [if_pos (nI_le (Nat.le_refl n) (by omega))]) (by
    intro g i X hi hX
    show ∃ y, _ ∧ (if nI n ≤ nI i then _ else _) = _
    rw [if_neg (nI_gt hi (by omega)), gin_ok (by omega) (by omega), gin_ok (by omega) (by omega), nI_j (by omega), nI_1]
    have eq : nI i = nI p ↔ i = p := nI_eq (by omega) (by omega)
    by_cases q : i = p
    · rw [if_pos (eq.mpr q)]
      refine ⟨_, fun v hv => ?_, rfl⟩
      by_cases z : v = i
      · rw [z, upd_s, if_pos q]; rfl
      · rw [upd_o z, hX v (by omega)]
    · rw [if_neg (fun z => q (eq.mp z))]
      refine ⟨_, fun v hv => ?_, rfl⟩
      by_cases z : v = i
      · rw [z, upd_s, if_neg q]; rfl
      · rw [upd_o z, hX v (by omega)]) N 0 far (Nat.zero_le _) (by omega) (fun v hv => absurd hv (Nat.not_lt_zero v))
  rw [nI_0] at e
  rw [e]
  refine m_rounds (f := fun v => if v = p then 0 else 1000) hG h1 h2 hp hN (fun v hv => ⟨hy v hv, by show (if v = p then 0 else 1000) ≤ 1000; split <;> omega⟩) (fun v hv hl => ?_) (by simp)
  by_cases q : v = p
  · simp only [if_pos q]
    rw [q]
    exact (CL_bt hG (q_bitN hn hp)).mpr ⟨p, (q_bitT (by omega)).mpr rfl, cn.rf⟩
  · simp only [if_neg q] at hl
    omega
/-- the nearest of the sources -/
theorem m_near {f : Nat → Nat} {w : Nat → Int32} {ρ : Type} {E : Int32 → Option ρ} (hn : n ≤ 16) (hN : 40 ≤ N) (hf : FA n w f) :
    ∃ m, m ≤ 1000 ∧ (∀ v, v < n → bt o v = true → m ≤ f v) ∧ (m = 1000 ∨ ∃ v, v < n ∧ bt o v = true ∧ f v = m) ∧
      it2 (fun (g37_11 : Int32 → Int32 → Option ρ) (x9 : Int32) (x10 : Int32) => (if nI n ≤ x9 then E x10 else bd1 (fX5_has N o x9) (fun (v19 : Int32) => (if v19 = 0 then g37_11 (x9 + 1) x10 else gin x9 16 ((if x10 ≤ (w x9.toNatClampNeg) then g37_11 (x9 + 1) x10 else gin x9 16 (g37_11 (x9 + 1) (w x9.toNatClampNeg)))))))) N 0 1000 = E (nI m) := by
  obtain ⟨y, ⟨m, i1, i2, i3, i4⟩, e⟩ := it2_inv (n := n) (F := fun (g37_11 : Int32 → Int32 → Option ρ) (x9 : Int32) (x10 : Int32) => (if nI n ≤ x9 then E x10 else bd1 (fX5_has N o x9) (fun (v19 : Int32) => (if v19 = 0 then g37_11 (x9 + 1) x10 else gin x9 16 ((if x10 ≤ (w x9.toNatClampNeg) then g37_11 (x9 + 1) x10 else gin x9 16 (g37_11 (x9 + 1) (w x9.toNatClampNeg)))))))) (fun i X => ∃ m, X = nI m ∧ m ≤ 1000 ∧ (∀ v, v < i → bt o v = true → m ≤ f v) ∧ (m = 1000 ∨ ∃ v, v < n ∧ bt o v = true ∧ f v = m)) E (by
    intro g X hX
    show (if nI n ≤ nI n then _ else _) = _
    rw [if_pos (nI_le (Nat.le_refl n) (by omega))]) (by
    rintro g i X hi ⟨m, rfl, j2, j3, j4⟩
    obtain ⟨k1, k2⟩ := hf i hi
    show ∃ y, _ ∧ (if nI n ≤ nI i then _ else _) = _
    rw [if_neg (nI_gt hi (by omega)), p_has (by omega), bd1_ok, gin_ok (by omega) (by omega), gin_ok (by omega) (by omega), nI_j (by omega), nI_1, k1]
    by_cases q : bt o i = true
    · rw [if_pos q, if_neg (by decide)]
      by_cases z : m ≤ f i
      · rw [if_pos (nI_le z (by omega))]
        refine ⟨_, ⟨m, rfl, j2, fun v hv hb => ?_, j4⟩, rfl⟩
        by_cases y : v = i
        · rw [y]; exact z
        · exact j3 v (by omega) hb
      · rw [if_neg (nI_ge (by omega) (by omega))]
        refine ⟨_, ⟨f i, rfl, k2, fun v hv hb => ?_, Or.inr ⟨i, hi, q, rfl⟩⟩, rfl⟩
        by_cases y : v = i
        · rw [y]; omega
        · have := j3 v (by omega) hb
          omega
    · rw [if_neg q, if_pos rfl]
      refine ⟨_, ⟨m, rfl, j2, fun v hv hb => ?_, j4⟩, rfl⟩
      by_cases y : v = i
      · rw [y] at hb; exact absurd hb q
      · exact j3 v (by omega) hb) N 0 1000 (Nat.zero_le _) (by omega) ⟨1000, rfl, Nat.le_refl _, fun v hv => absurd hv (Nat.not_lt_zero v), Or.inl rfl⟩
  rw [nI_0] at e
  rw [i1] at e
  exact ⟨m, i2, i3, i4, e⟩
theorem op_toLive {br so lo e th so' lo' ea lg wr pe P : Int32} {far : Nat → Int32} {out : Nat → Int64} (hG : GR n k a b) (he : ∀ s, s < k → ends s = edg a b s) (h1 : ∀ s, s < k → one s = nI (a s)) (h2 : ∀ s, s < k → oth s = nI (b s)) (ho : inN n o) (hN : 40 ≤ N) :
    ∃ code v out' far', fL_toLive N (nI n) (nI k) br so lo ends c e o out P = some (code, out') ∧ fX5_toLive N th (nI n) (nI k) so' lo' c ea o lg wr pe one oth far P = some (v, code, far') ∧ OK1 code v out' := by
  have hn := hG.1
  unfold fX5_toLive
  rw [m_isNode (by omega), bd1_ok]
  simp only [jn1]
  by_cases h : NIN n P
  · obtain ⟨p, hp, rfl⟩ := id h
    obtain ⟨w, f, f1, f2, f3, f4⟩ := m_lay (N := N) (c := c) (th := 0) (so := so') (lo := lo') (ea := ea) (on := o) (lg := lg) (wr := wr) (pe := pe) (far := far) hG h1 h2 hp hN
    rw [if_neg (fun z => bI_z.mp z h), if_pos (by decide), f1, bd1_ok]
    obtain ⟨m, m1, m2, m3, m4⟩ := m_near (o := o) (N := N) (w := w) (E := fun x10 => (if x10 = 1000 then (if (2 : Int32) ≤ 0 then some (x10, (2 : Int32), w) else some ((0 : Int32), (2 : Int32), w)) else (if (0 : Int32) ≤ 0 then some (x10, (0 : Int32), w) else some ((0 : Int32), (0 : Int32), w)))) hn hN f2
    have m5 := m4
    have e1000 : nI m = 1000 ↔ m = 1000 := nI_eq (b := 1000) (by omega) (by omega)
    unfold fL_toLive
    rcases c_tol (N := N) (c := c) (o := o) (br := br) (so := so) (lo := lo) (te := e) hG he hp hN with ⟨i0, t1, t2, t3, t4⟩ | ⟨t3, t4⟩
    · have hm : m = i0 := by
        obtain ⟨v, v1, v2⟩ := q_andN.mp t2
        have q1 := m2 v (ho v v2) v2
        have q2 := f4 v (ho v v2) i0 v1
        rcases m3 with z | ⟨x, x1, x2, x3⟩
        · omega
        · have q3 := f3 x x1 (by omega)
          have : ¬ f x < i0 := fun y => q_and0.mp (t3 _ y) x q3 x2
          omega
      rw [t4]
      refine ⟨0, nI i0, vp_updL out (0 : Int32).toNatClampNeg (nI i0).toInt64, w, rfl, ?_, fun _ => updL0⟩
      refine m5.trans ?_
      show (if nI m = 1000 then _ else _) = _
      rw [if_neg (fun z => by have := e1000.mp z; omega), if_pos (by decide), hm]
    · have hm : m = 1000 := by
        rcases m3 with z | ⟨x, x1, x2, x3⟩
        · exact z
        · refine Classical.byContradiction (fun y => ?_)
          obtain ⟨j, j1, j2⟩ := RR_fin hG hp (f3 x x1 (by omega))
          exact q_and0.mp (t3 j j1) x j2 x2
      rw [t4]
      refine ⟨2, 0, out, w, by simp [bh1], ?_, fun z => absurd z (by decide)⟩
      refine m5.trans ?_
      show (if nI m = 1000 then _ else _) = _
      rw [if_pos (e1000.mpr hm), if_neg (by decide)]
  · rw [if_pos (bI_z.mpr h), if_neg (by decide)]
    refine ⟨1, _, out, far, ?_, rfl, fun z => absurd z (by decide)⟩
    unfold fL_toLive fX4_toLive
    rcases c_reqN (N := N) (n := n) (sc := nI k) (br := br) (so := so) (lo := lo) (p := P) (by omega) with ⟨h', e1⟩ | ⟨h', e1⟩
    · exact absurd h' h
    · rw [e1]
      simp [bh1, bx0]
end TOL
