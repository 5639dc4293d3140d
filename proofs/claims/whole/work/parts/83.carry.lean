section CARRY
variable {n k : Nat} {a b : Nat → Nat} {ends one oth isb : Nat → Int32} {br so lo c e o : Int32} {N d r g q w : Nat} {hol mho mih dac log rac seq : Nat → Int32}
def dropF (x17 : Int32) (G : Int32 → Int32 → Int32 → Int32 → Int32 → Int32 → (Nat → Int32) → Int32 → (Nat → Int32) → Option (Int32 × Int32 × Int32 × Int32 × Int32 × Int32 × (Nat → Int32) × Int32 × (Nat → Int32))) (x28 w29 w30 w31 w32 w33 : Int32) (w34 : Nat → Int32) (w35 : Int32) (w36 : Nat → Int32) : Option (Int32 × Int32 × Int32 × Int32 × Int32 × Int32 × (Nat → Int32) × Int32 × (Nat → Int32)) :=
  (if w35 ≤ x28 then some (x17, w29, w30, w31, w32, w33, w34, w35 - x17, w36) else gin x28 30 (gin (x28 - x17) 30 (G (x28 + 1) w29 w30 w31 w32 w33 w34 w35 (upd w36 (x28 - x17).toNatClampNeg (w36 x28.toNatClampNeg)))))
theorem m_drop {p : Nat} {w29 w30 w31 w32 w33 : Int32} {w34 : Nat → Int32} (hp : p ≤ r) (hr : r ≤ 30) (hN : 40 ≤ N) : ∃ seq', it9 (dropF (nI p)) N (nI p) w29 w30 w31 w32 w33 w34 (nI r) seq = some (nI p, w29, w30, w31, w32, w33, w34, nI (r - p), seq') ∧ ∀ j, j < r - p → seq' j = seq (p + j) := by
  have lp : ∀ M i f, p ≤ i → i ≤ r → r - i < M → (∀ j, j < i - p → f j = seq (p + j)) → (∀ j, i - p ≤ j → f j = seq j) → ∃ seq', it9 (dropF (nI p)) M (nI i) w29 w30 w31 w32 w33 w34 (nI r) f = some (nI p, w29, w30, w31, w32, w33, w34, nI (r - p), seq') ∧ ∀ j, j < r - p → seq' j = seq (p + j) := by
    intro M
    induction M with
    | zero => intro i f _ _ h; exact absurd h (Nat.not_lt_zero _)
    | succ M ih =>
      intro i f hpi hi hM h1 h2
      rw [it9]
      show ∃ seq', (if nI r ≤ nI i then _ else _) = _ ∧ _
      rcases Nat.lt_or_ge i r with z | z
      · rw [if_neg (nI_gt z (by omega)), nI_sub hpi, gin_ok (by omega) (by omega), gin_ok (by omega) (by omega), nI_j (by omega), nI_j (by omega), nI_1]
        refine ih (i + 1) _ (by omega) z (by omega) (fun j hj => ?_) (fun j hj => ?_)
        · by_cases q : j = i - p
          · rw [q, upd_s, h2 i (by omega)]
            congr 1; omega
          · rw [upd_o q, h1 j (by omega)]
        · rw [upd_o (by omega), h2 j (by omega)]
      · have : i = r := by omega
        subst this
        rw [if_pos (nI_le (Nat.le_refl _) (by omega)), nI_sub hp]
        exact ⟨f, rfl, h1⟩
  exact lp N p seq (Nat.le_refl _) hp (by omega) (fun j hj => by omega) (fun j _ => rfl)
theorem in130 {p : Int32} : (∃ P, 1 ≤ P ∧ P ≤ 30 ∧ p = nI P ∧ ¬ p < 1 ∧ p ≤ 30 ∧ fX5_in N p 1 30 = some 1) ∨ ((p < 1 ∨ (¬ p < 1 ∧ ¬ p ≤ 30)) ∧ fX5_in N p 1 30 = some 0) := by
  unfold fX5_in
  by_cases h : p < 1
  · rw [if_pos h]; exact Or.inr ⟨Or.inl h, rfl⟩
  · have hp : ¬ p < 0 := fun z => h (by
      rw [Int32.lt_iff_toInt_lt] at z ⊢
      have : (0 : Int32).toInt = 0 := rfl
      have : (1 : Int32).toInt = 1 := rfl
      omega)
    obtain ⟨P, hP, rfl⟩ := nI_of hp
    have l1 := nI_ltI (a := P) (b := 1) hP (by omega)
    have l2 := nI_leI (a := P) (b := 30) hP (by omega)
    have l3 := nI_ltI (a := 30) (b := P) (by omega) hP
    have q1 : 1 ≤ P := Nat.le_of_not_lt (fun z => h (l1.mpr z))
    rw [if_neg h]
    by_cases z : P ≤ 30
    · exact Or.inl ⟨P, q1, z, rfl, h, l2.mpr z, if_neg (show ¬ (30 : Int32) < nI P from fun y => by have := l3.mp y; omega)⟩
    · exact Or.inr ⟨Or.inr ⟨h, fun y => z (l2.mp y)⟩, if_pos (show (30 : Int32) < nI P from l3.mpr (by omega))⟩
theorem RW_drop {r p : Nat} {f h f' h' : Nat → Int32} (hR : RW n k r f h) (h1 : ∀ j, j < r - p → f' j = f (p + j)) (h2 : ∀ j, j < r - p → h' j = h (p + j)) : RW n k (r - p) f' h' := fun j hj => by
  rw [h1 j hj, h2 j hj]
  exact hR (p + j) (by omega)
set_option maxHeartbeats 1000000 in
theorem op_carryOut {ac ae ao th p : Int32} {out : Nat → Int64} (hC : HC n k a b ends one oth isb br) (hH : HS n k a b so lo c e o) (hP : HP n g hol mho mih) (hd : d ≤ 200) (hR : RW n k d dac log) (hr : r ≤ 30) (hS : RW n k r rac seq) (hN : 300 ≤ N) :
    ∃ code v out' c' e' o' d' dac' log' r' rac' seq' x y z, fL_carryOut N (nI n) (nI k) br so lo ends c e o (nI d) dac (nI r) rac (nI g) hol ac ae ao out p = some (code, c', e', o', nI d', dac', nI r', rac', x, y, z, out') ∧
      fX5_carryOut N th (nI n) (nI k) so lo c e o (nI d) (nI r) (nI g) one oth isb log seq mho mih p = some (v, code, c', e', o', nI d', log', nI r', seq') ∧ OK1 code v out' ∧ HS n k a b so lo c' e' o' ∧ d' ≤ 200 ∧ RW n k d' dac' log' ∧ r' ≤ 30 ∧ RW n k r' rac' seq' := by
  unfold fL_carryOut fX4_carryOut fX5_carryOut fX0_size
  simp only [jn1, jn9]
  rw [bd1_ok, bd1_ok]
  generalize hF : (fun (g60_19 : Int32 → Int32 → Int32 → Int32 → Int32 → (Nat → Int32) → Int32 → (Nat → Int32) → Int32 → Int32 → Int32 → Option (String ⊕ (Int32 × Int32 × Int32 × Int32 × Int32 × (Nat → Int32) × Int32 × (Nat → Int32) × Int32 × Int32 × Int32))) (x8 w9 w10 w11 w12 : Int32) (w13 : Nat → Int32) (w14 : Int32) (w15 : Nat → Int32) (w16 w17 w18 : Int32) => _) = F
  generalize hM : (fun (g52_15 : Int32 → Int32 → Int32 → Int32 → Int32 → Int32 → (Nat → Int32) → Int32 → (Nat → Int32) → Option (Int32 × Int32 × Int32 × Int32 × Int32 × Int32 × (Nat → Int32) × Int32 × (Nat → Int32))) (x6 w7 w8 w9 w10 w11 : Int32) (w12 : Nat → Int32) (w13 : Int32) (w14 : Nat → Int32) => _) = F2
  have sM : ∀ G (x6 w7 w8 w9 w10 w11 : Int32) (w12 : Nat → Int32) (w13 : Int32) (w14 : Nat → Int32), F2 G x6 w7 w8 w9 w10 w11 w12 w13 w14 = (if w7 = 0 then (if p ≤ x6 then it9 (dropF x6) N x6 w7 w8 w9 w10 w11 w12 w13 w14 else (if w13 ≤ x6 then it9 (dropF x6) N x6 w7 w8 w9 w10 w11 w12 w13 w14 else gin x6 30 (gin x6 30 (bd6 (fX5_acts N w7 (nI n) (nI k) so lo w8 w9 w10 w11 w13 (nI g) one oth isb w12 mho mih ((w14 x6.toNatClampNeg) / 100) ((w14 x6.toNatClampNeg) - (w14 x6.toNatClampNeg) / 100 * 100)) (fun v48 w49 w50 w51 w52 w53 => (if v48 = 0 then G (x6 + 1) w7 w49 w50 w51 w52 w53 w13 w14 else it9 (dropF x6) N x6 w7 w49 w50 w51 w52 w53 w13 w14)))))) else it9 (dropF x6) N x6 w7 w8 w9 w10 w11 w12 w13 w14) := by
    subst hM; intros; rfl
  have eM : ∀ (y : Int32), ¬ y = 0 → ∃ seq', it9 F2 N 0 y c e o (nI d) log (nI r) seq = some (nI 0, y, c, e, o, nI d, log, nI r, seq') ∧ RW n k r rac seq' := fun y hy => by
    obtain ⟨seq', e1, e2⟩ := m_drop (N := N) (seq := seq) (p := 0) (w29 := y) (w30 := c) (w31 := e) (w32 := o) (w33 := nI d) (w34 := log) (Nat.zero_le r) hr (by omega)
    rw [nI_0] at e1
    obtain ⟨M, rfl⟩ : ∃ M, N = M + 1 := ⟨N - 1, by omega⟩
    rw [it9, sM, if_neg hy, e1, Nat.sub_zero, nI_0]
    refine ⟨seq', rfl, fun j hj => ?_⟩
    rw [e2 j (by omega), Nat.zero_add]
    exact hS j hj
  rcases in130 (N := N) (p := p) with ⟨P, p1, p2, rfl, q1, q2, e1⟩ | ⟨q1, e1⟩
  · rw [if_neg q1, if_pos q2, e1, bd1_ok, if_neg (show ¬ (1 : Int32) = 0 by decide)]
    have hW : ∃ W, W ≤ r ∧ W ≤ P ∧ (r ≤ P → W = r) ∧ (P < r → W = P) ∧ (if nI r < nI P then nI r else nI P) = nI W := by
      by_cases z : r < P
      · exact ⟨r, Nat.le_refl _, by omega, fun _ => rfl, fun y => by omega, if_pos (nI_lt z (by omega))⟩
      · exact ⟨P, by omega, Nat.le_refl _, fun y => by omega, fun _ => rfl, if_neg (nI_nlt (by omega) (by omega))⟩
    obtain ⟨W, w1, w2, w3, w4, eW⟩ := hW
    rw [eW, nI_add, nI_add, nI_add]
    have lW : nI (d + W) ≤ 200 ↔ d + W ≤ 200 := nI_leI (b := 200) (by omega) (by omega)
    have yM : ∀ {α : Type} (f : Int32 → α), (if nI r ≤ nI P then (if nI (d + r) ≤ 200 then f 0 else f 2) else (if nI (d + P) ≤ 200 then f 0 else f 2)) = (if nI (d + W) ≤ 200 then f 0 else f 2) := fun f => by
      by_cases z : r ≤ P
      · rw [if_pos (nI_le z (by omega)), w3 z]
      · rw [if_neg (nI_ge (by omega) (by omega)), w4 (by omega)]
    have yM2 := yM (fun y => it9 F2 N 0 y c e o (nI d) log (nI r) seq)
    rw [yM2]
    by_cases h2 : d + W ≤ 200
    · rw [if_pos (lW.mpr h2), if_pos (lW.mpr h2)]
      have sF : ∀ G (x8 w9 w10 w11 w12 : Int32) (w13 : Nat → Int32) (w14 : Int32) (w15 : Nat → Int32) (w16 w17 w18 : Int32), F G x8 w9 w10 w11 w12 w13 w14 w15 w16 w17 w18 = (if (if nI r < nI P then nI r else nI P) ≤ x8 then bd2 (fX0_dropFirst N w14 30 w15 x8) (fun w23 w24 => some (.inr (x8, w9, w10, w11, w12, w13, w24, w23, w16, w17, w18))) else bd1 (fX0_get N w14 30 w15 x8) (fun v25 => bd9 (fX4_doAndLog N (nI n) (nI k) br so lo ends w9 w10 w11 w12 w13 (nI g) hol w16 w17 w18 v25) (fun v28 w29 w30 w31 w32 w33 w34 w35 w36 => (if v28 = 0 then G (x8 + 1) w29 w30 w31 w32 w33 w14 w15 w34 w35 w36 else bd2 (fX0_dropFirst N w14 30 w15 x8) (fun w39 w40 => some (.inr (x8, w29, w30, w31, w32, w33, w40, w39, w34, w35, w36))))))) := by
        subst hF; intros; rfl
      have lp : ∀ M i c1 e1 o1 d1 dac1 log1 a1 a2 a3, i ≤ W → W - i < M → d1 + (W - i) ≤ 200 → HS n k a b so lo c1 e1 o1 → RW n k d1 dac1 log1 → ∃ v c' e' o' d' dac' log' r' rac' seq' x y z, it11 F M (nI i) c1 e1 o1 (nI d1) dac1 (nI r) rac a1 a2 a3 = some (.inr (v, c', e', o', nI d', dac', nI r', rac', x, y, z)) ∧ it9 F2 M (nI i) 0 c1 e1 o1 (nI d1) log1 (nI r) seq = some (v, 0, c', e', o', nI d', log', nI r', seq') ∧ HS n k a b so lo c' e' o' ∧ d' ≤ 200 ∧ RW n k d' dac' log' ∧ r' ≤ 30 ∧ RW n k r' rac' seq' := by
        intro M
        induction M with
        | zero => intro i _ _ _ _ _ _ _ _ _ _ h; exact absurd h (Nat.not_lt_zero _)
        | succ M ih =>
          intro i c1 e1 o1 d1 dac1 log1 a1 a2 a3 hi hM' hd1 hH1 hR1
          obtain ⟨rac', f1, f2⟩ := c_drop (N := N) (arr := rac) (p := i) (s := r) (by omega) hr (by omega)
          rw [it11, it9, sF, sM, eW, if_pos rfl]
          rcases Nat.lt_or_ge i W with z | z
          · obtain ⟨r1, q, w, hA, r2⟩ := hS i (by omega)
            have hw := hA.w32 hC.1
            have hq := hA.1
            obtain ⟨v, x, y, z', k1, k2⟩ := do2 (N := N) (dac := dac1) (log := log1) (ac := a1) (ae := a2) (ao := a3) (th := 0) (wr := nI r) hC hH1 hP hA (show d1 < 200 by omega) (by omega)
            rw [if_neg (nI_gt z (by omega)), if_neg (nI_gt (show i < P by omega) (by omega)), if_neg (nI_gt (show i < r by omega) (by omega)), c_get (s := r) (by omega) (by omega), bd1_ok, r2, gin_ok (by omega) (by omega), gin_ok (by omega) (by omega), nI_j (by omega), ← r1, r2, a_w q (by omega) w hw, a_q q (by omega) w hw]
            by_cases hv : v = 0
            · obtain ⟨i1, i2, i3⟩ := k1 hv
              rw [i2, i3, bd9_ok, bd6_ok, if_pos rfl, if_pos rfl, nI_1]
              exact ih (i + 1) _ _ _ (d1 + 1) _ _ _ _ _ z (by omega) (by omega) i1 (RW_app hR1 ⟨q, w, hA, rfl⟩)
            · obtain ⟨i2, i3⟩ := k2 hv
              obtain ⟨seq', g1, g2⟩ := m_drop (N := N) (seq := seq) (p := i) (r := r) (w29 := 0) (w30 := c1) (w31 := e1) (w32 := o1) (w33 := nI d1) (w34 := log1) (by omega) hr (by omega)
              rw [i2, i3, bd9_ok, bd6_ok, if_neg hv, if_neg hv, f1, bd2_ok, g1]
              exact ⟨_, _, _, _, d1, _, _, r - i, _, _, _, _, _, rfl, rfl, hH1, by omega, hR1, by omega, RW_drop hS f2 g2⟩
          · have : i = W := by omega
            subst this
            obtain ⟨seq', g1, g2⟩ := m_drop (N := N) (seq := seq) (p := i) (r := r) (w29 := 0) (w30 := c1) (w31 := e1) (w32 := o1) (w33 := nI d1) (w34 := log1) (by omega) hr (by omega)
            rw [if_pos (nI_le (Nat.le_refl _) (by omega)), f1, bd2_ok, g1]
            have : (if nI P ≤ nI i then some (nI i, (0 : Int32), c1, e1, o1, nI d1, log1, nI (r - i), seq') else (if nI r ≤ nI i then some (nI i, (0 : Int32), c1, e1, o1, nI d1, log1, nI (r - i), seq') else gin (nI i) 30 (gin (nI i) 30 (bd6 (fX5_acts N 0 (nI n) (nI k) so lo c1 e1 o1 (nI d1) (nI r) (nI g) one oth isb log1 mho mih ((seq (nI i).toNatClampNeg) / 100) ((seq (nI i).toNatClampNeg) - (seq (nI i).toNatClampNeg) / 100 * 100)) (fun v48 w49 w50 w51 w52 w53 => (if v48 = 0 then it9 F2 M (nI i + 1) 0 w49 w50 w51 w52 w53 (nI r) seq else it9 (dropF (nI i)) N (nI i) 0 w49 w50 w51 w52 w53 (nI r) seq)))))) = some (nI i, (0 : Int32), c1, e1, o1, nI d1, log1, nI (r - i), seq') := by
              by_cases y : r ≤ P
              · by_cases y2 : nI P ≤ nI i
                · rw [if_pos y2]
                · rw [if_neg y2, if_pos (nI_le (by have := w3 y; omega) (by omega))]
              · rw [if_pos (nI_le (by have := w4 (by omega); omega) (by omega))]
            rw [this]
            exact ⟨_, _, _, _, d1, _, _, r - i, _, _, _, _, _, rfl, rfl, hH1, by omega, hR1, by omega, RW_drop hS f2 g2⟩
      obtain ⟨v, c', e', o', d', dac', log', r', rac', seq', x, y, z, k1, k2, k3⟩ := lp N 0 c e o d dac log ac ae ao (Nat.zero_le _) (by omega) (by omega) hH hR
      rw [nI_0] at k1 k2
      rw [k1, k2]
      exact ⟨0, v, _, c', e', o', d', dac', log', r', rac', seq', x, y, z, rfl, rfl, fun _ => updL0, k3⟩
    · obtain ⟨seq', f1, f2⟩ := eM 2 (by decide)
      rw [if_neg (fun z => h2 (lW.mp z)), if_neg (fun z => h2 (lW.mp z)), f1]
      exact ⟨2, _, out, c, e, o, d, dac, log, r, rac, _, ac, ae, ao, by simp [bh11], rfl, fun z => absurd z (by decide), hH, hd, hR, hr, f2⟩
  · obtain ⟨seq', f1, f2⟩ := eM 1 (by decide)
    rw [e1, bd1_ok, if_pos rfl, f1]
    refine ⟨1, _, out, c, e, o, d, dac, log, r, rac, _, ac, ae, ao, ?_, rfl, fun z => absurd z (by decide), hH, hd, hR, hr, f2⟩
    rcases q1 with z | ⟨z1, z2⟩
    · rw [if_pos z]; simp [bh11]
    · rw [if_neg z1, if_neg z2]; simp [bh11]
end CARRY
