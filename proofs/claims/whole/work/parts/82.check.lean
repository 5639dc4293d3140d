section SEQS
variable {n k : Nat} {a b : Nat → Nat} {ends one oth isb : Nat → Int32} {br so lo c e o : Int32} {N d r g q w : Nat} {hol mho mih dac log rac seq : Nat → Int32}
theorem op_check {tc te to ac ae ao th lg : Int32} (hC : HC n k a b ends one oth isb br) (hH : HS n k a b so lo c e o) (hP : HP n g hol mho mih) (hr : r ≤ 30) (hR : RW n k r rac seq) (hN : 300 ≤ N) :
    ∃ v t1 t2 t3 t4 t5 t6, fX4_check N (nI n) (nI k) br so lo ends c e o (nI r) rac (nI g) hol tc te to ac ae ao = some (v, t1, t2, t3, t4, t5, t6) ∧
      fX5_check N th (nI n) (nI k) so lo c e o lg (nI r) (nI g) one oth isb seq mho mih = some (v, 0, c, e, o) := by
  obtain ⟨hG, he, h1, h2, hb⟩ := hC
  unfold fX4_check fX5_check fX3_copyFrom fX0_size
  simp only [jn5]
  rw [bd3_ok]
  generalize hF : (fun (g13_12 : Int32 → Int32 → Int32 → Int32 → Int32 → Int32 → Int32 → Option (Int32 × Int32 × Int32 × Int32 × Int32 × Int32 × Int32)) (x5 w6 w7 w8 w9 w10 w11 : Int32) => _) = F
  generalize hM : (fun (g23_6 : Int32 → Int32 → Int32 → Int32 → Int32 → Option (Int32 × Int32 × Int32 × Int32 × Int32)) (x1 w2 w3 w4 w5 : Int32) => _) = F2
  have sF : ∀ (G : Int32 → Int32 → Int32 → Int32 → Int32 → Int32 → Int32 → Option (Int32 × Int32 × Int32 × Int32 × Int32 × Int32 × Int32)) (x5 w6 w7 w8 w9 w10 w11 : Int32), F G x5 w6 w7 w8 w9 w10 w11 = (if nI r ≤ x5 then some (nI r, w6, w7, w8, w9, w10, w11) else bd1 (fX0_get N (nI r) 30 rac x5) (fun v19 => bd1 (fX4_kindOf N v19) (fun v21 => bd1 (fX4_whatOf N v19) (fun v23 => bd4 (fX4_reasonIn N (nI n) (nI k) br so lo ends (nI g) hol w6 w7 w8 w9 w10 w11 v21 v23) (fun v26 w27 w28 w29 => (if v26 = 0 then bd1 (fX4_kindOf N v19) (fun v31 => bd1 (fX4_whatOf N v19) (fun v33 => bd3 (fX3_flip N w6 w7 w8 v31 v33) (fun w36 w37 w38 => G (x5 + 1) w36 w37 w38 w27 w28 w29))) else some (x5, w6, w7, w8, w27, w28, w29))))))) := by
    subst hF; intros; rfl
  have sM : ∀ (G : Int32 → Int32 → Int32 → Int32 → Int32 → Option (Int32 × Int32 × Int32 × Int32 × Int32)) (x1 w2 w3 w4 w5 : Int32), F2 G x1 w2 w3 w4 w5 = (if nI r ≤ x1 then some (x1, w2, c, e, o) else gin x1 30 (gin x1 30 (bd4 (fX5_why N w2 (nI n) (nI k) so lo w3 w4 w5 lg (nI r) (nI g) one oth isb mho mih ((seq x1.toNatClampNeg) / 100) ((seq x1.toNatClampNeg) - (seq x1.toNatClampNeg) / 100 * 100)) (fun v19 w20 w21 w22 => (if v19 = 0 then gin x1 30 (gin x1 30 (bd3 (fX5_does N w2 (nI n) (nI k) so lo w20 w21 w22 lg (nI r) (nI g) ((seq x1.toNatClampNeg) / 100) ((seq x1.toNatClampNeg) - (seq x1.toNatClampNeg) / 100 * 100)) (fun w27 w28 w29 => G (x1 + 1) w2 w27 w28 w29))) else some (x1, w2, c, e, o)))))) := by
    subst hM; intros; rfl
  clear hF hM
  have lp : ∀ M i c1 e1 o1 a1 a2 a3, i ≤ r → r - i < M → HS n k a b so lo c1 e1 o1 → ∃ v t1 t2 t3 t4 t5 t6, it7 F M (nI i) c1 e1 o1 a1 a2 a3 = some (v, t1, t2, t3, t4, t5, t6) ∧ it5 F2 M (nI i) 0 c1 e1 o1 = some (v, 0, c, e, o) := by
    intro M
    induction M with
    | zero => intro i _ _ _ _ _ _ _ h; exact absurd h (Nat.not_lt_zero _)
    | succ M ih =>
      intro i c1 e1 o1 a1 a2 a3 hi hM' hH1
      rw [it7, it5, sF, sM]
      rcases Nat.lt_or_ge i r with z | z
      · obtain ⟨r1, q, w, hA, r2⟩ := hR i z
        have hw := hA.w32 hG
        have hq := hA.1
        obtain ⟨x, y, z', eR⟩ := c_reason (N := N) (hol := hol) (br := br) (ac := a1) (ae := a2) (ao := a3) hG he hH1 hA hP.1 (by omega)
        have eW := m_why (N := N) (th := 0) (lg := lg) (wr := nI r) hG h1 h2 hb hH1 hA hP.1 hP.i (by omega)
        rw [hP.h] at eW
        rw [if_neg (nI_gt z (by omega)), if_neg (nI_gt z (by omega)), c_get (s := r) (by omega) (by omega), bd1_ok, r2, c_kind hq hw, bd1_ok, c_what hq hw, bd1_ok, eR, bd4_ok, gin_ok (by omega) (by omega), gin_ok (by omega) (by omega), nI_j (by omega), ← r1, r2, a_w q (by omega) w hw, a_q q (by omega) w hw, eW, bd4_ok]
        by_cases hv : VAL k a b br so lo c1 e1 o1 (orF hol g) q w = 0
        · rw [hv, if_pos rfl, if_pos rfl, bd1_ok, bd1_ok, c_flip hq, bd3_ok, gin_ok (by omega) (by omega), gin_ok (by omega) (by omega), m_does hq hw (RSN_z hv).1, bd3_ok, nI_1]
          exact ih (i + 1) _ _ _ _ _ _ z (by omega) (HS_go hG hH1 hA hv)
        · rw [if_neg hv, if_neg hv]
          exact ⟨_, _, _, _, _, _, _, rfl, rfl⟩
      · have : i = r := by omega
        subst this
        rw [if_pos (nI_le (Nat.le_refl _) (by omega)), if_pos (nI_le (Nat.le_refl _) (by omega))]
        exact ⟨_, _, _, _, _, _, _, rfl, rfl⟩
  have := lp N 0 c e o ac ae ao (Nat.zero_le _) (by omega) hH
  rw [nI_0] at this
  exact this
end SEQS
