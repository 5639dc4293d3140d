/-! acts as a whole; builds -/
def BOK (c e o : Int32) (d r g : Nat) (dac rac hol fc fl fq fh : Nat → Int32) (R : Option (Int32 × Int32 × Int32 × (Nat → Int32) × Int32 × Int32 × (Nat → Int32) × (Nat → Int32))) : Prop :=
  ∃ (n k : Nat) (a b : Nat → Nat) (ends : Nat → Int32) (br so lo : Int32) (ft fg : Nat → Int32), R = some (nI n, so, lo, ends, nI k, br, ft, fg) ∧ 0 < n ∧ INV n k a b d r g ends br so lo c e o dac rac hol ft fc fl fq fh fg
theorem if_ap {ρ : Type} {c : Prop} [Decidable c] {u v : Int32} (gg : Int32 → Option ρ) : (if c then gg u else gg v) = gg (if c then u else v) := by
  split <;> rfl
theorem tw_0 : ∀ i, i < 16 → ∀ j, j < 16 → (nI i + (16 : Int32) * nI j) + 0 = nI (tw i j false) := by decide +kernel
theorem tw_1 : ∀ i, i < 16 → ∀ j, j < 16 → (nI i + (16 : Int32) * nI j) + 256 = nI (tw i j true) := by decide +kernel
section BLD
variable {n k : Nat} {a b : Nat → Nat} {ends : Nat → Int32} {br so lo c e o : Int32} {N d r g q w : Nat} {hol dac rac ft fc fl fq fh fg fm : Nat → Int32}
theorem x_acts {p1 p2 p3 ac ae ao : Int32} (hI : INV n k a b d r g ends br so lo c e o dac rac hol ft fc fl fq fh fg) (hn0 : 0 < n) (hN : 300 ≤ N) :
    AOK n k a b ends br so lo ft (fL_acts N (nI n) (nI k) br so lo ends c e o (nI d) dac (nI r) rac (nI g) hol ac ae ao ft fc fm fl fq fh fg p1 p2 p3) := by
  have hG := hI.1
  have hF := hI.2.2.2.2.2.2.2.2.2.2.1
  obtain ⟨q, w, hA, er⟩ := l_rand (N := N) (y := p2) hn0 hG.1 hG.2.1 hF.1 hF.2.1
  unfold fL_acts
  rw [er, bd1_ok]
  by_cases z1 : 8 ≤ p1
  · rw [if_pos z1]
    by_cases z2 : 10 ≤ p1
    · rw [if_pos z2]
      by_cases z3 : 14 ≤ p1
      · rw [if_pos z3]
        by_cases z4 : p1 = 14
        · rw [if_pos z4]; exact x_erase hI hN
        · rw [if_neg z4]
          by_cases z5 : 18 ≤ p1
          · rw [if_pos z5]
            by_cases z6 : 21 ≤ p1
            · rw [if_pos z6]; exact x_hand hI hN
            · rw [if_neg z6]; exact x_permit hI hN
          · rw [if_neg z5]; exact x_carry hI hN
      · rw [if_neg z3]; exact x_write hI hA hN
    · rw [if_neg z2]; exact x_back hI hN
  · rw [if_neg z1]; exact x_act hI hA hN
theorem ROWs_m {n' k' : Nat} (h : ROWs n k d dac) (hn : n ≤ n') (hk : k ≤ k') : ROWs n' k' d dac := fun j hj => by
  obtain ⟨q, w, hA, e⟩ := h j hj
  exact ⟨q, w, hA.m hn hk, e⟩
theorem x_node {p1 : Int32} (hI : INV n k a b d r g ends br so lo c e o dac rac hol ft fc fl fq fh fg) (hn16 : n < 16) :
    BOK c e o d r g dac rac hol fc fl fq fh (fL_builds_22 N (nI n) (nI k) br so lo fg ends ft p1) := by
  obtain ⟨hG, he, hB, hH, hd, hRd, hr, hRr, hg, hh, hF, hT, hS, hl, hq, hfh⟩ := id hI
  obtain ⟨h0, h1, h2, h3, h4, h5, h6⟩ := id hF
  obtain ⟨i1, i2, i3, i4, i5, i6⟩ := id hH
  have u02 : ∀ (f : Nat → Int32) x, upd f 2 x 0 = f 0 := fun f x => upd_o (by omega)
  have u03 : ∀ (f : Nat → Int32) x, upd f 3 x 0 = f 0 := fun f x => upd_o (by omega)
  have u23 : ∀ (f : Nat → Int32) x, upd f 2 x 3 = f 3 := fun f x => upd_o (by omega)
  unfold fL_builds_22
  rw [jn1_to _ (fun gg => if_ap gg), jn1_to _ (fun gg => if_ap gg)]
  generalize (if (p1 &&& 24) = 0 then (1 : Int32) else 0) = S
  generalize (if (p1 &&& 96) = 0 then (1 : Int32) else 0) = L
  rw [jn1_to _ (fun gg => if_ap gg), jn1_to _ (fun gg => if_ap gg)]
  simp only [u02, u03, u23, upd_s, h0, h2, h3, nI_1]
  rw [lN_ok hn16, bd4_ok, nI_pred, if_pos rfl]
  have hso := add_in (p := S) i1 hn16
  have hlo := add_in (p := L) i2 hn16
  generalize (if S = 0 then (0 : Int32) else (1 : Int32) <<< (nI n &&& 31)) = sb at hso ⊢
  generalize (if L = 0 then (0 : Int32) else (1 : Int32) <<< (nI n &&& 31)) = lb at hlo ⊢
  refine ⟨n + 1, k, a, b, ends, br, so ||| sb, lo ||| lb, ft, _, rfl, by omega, ⟨by omega, hG.2.1, fun s hs' => ⟨by have := (hG.2.2 s hs').1; omega, by have := (hG.2.2 s hs').2.1; omega, (hG.2.2 s hs').2.2⟩⟩, he, hB, ⟨hso, hlo, i3, inN_m i4 (by omega), fun v hv => ?_, i6⟩, hd, ROWs_m hRd (by omega) (Nat.le_refl k), hr, ROWs_m hRr (by omega) (Nat.le_refl k), hg, fun p hp => inN_m (hh p hp) (by omega), ⟨upd_s, ?_, ?_, ?_, ?_, ?_, ?_⟩, hT, hS, hl, hq, hfh⟩
  · rw [b_or, Bool.or_eq_true]
    exact Or.inl (i5 v hv)
  · rw [upd_o (by omega), upd_o (by omega), upd_o (by omega)]; exact h1
  · rw [upd_o (by omega), upd_o (by omega), upd_s]
  · rw [upd_o (by omega), upd_s]
  · rw [upd_o (by omega), upd_o (by omega), upd_o (by omega)]; exact h4
  · rw [upd_o (by omega), upd_o (by omega), upd_o (by omega)]; exact h5
  · rw [upd_o (by omega), upd_o (by omega), upd_o (by omega)]; exact h6
theorem x_switch {p1 : Int32} (hI : INV n k a b d r g ends br so lo c e o dac rac hol ft fc fl fq fh fg) (hn2 : 0 < n) :
    BOK c e o d r g dac rac hol fc fl fq fh (fL_builds_119 N p1 fg (nI n) (nI k) br so lo ends ft) := by
  obtain ⟨hG, he, hB, hH, hd, hRd, hr, hRr, hg, hh, hF, hT, hS, hl, hq, hfh⟩ := id hI
  obtain ⟨h0, h1, h2, h3, h4, h5, h6⟩ := id hF
  obtain ⟨i1, i2, i3, i4, i5, i6⟩ := id hH
  obtain ⟨hn, hk, hs⟩ := id hG
  obtain ⟨i, hi, ei⟩ := l_low (n := n) (N := N) (v := p1 >>> (3 &&& 31)) hn2 (by omega)
  obtain ⟨j, hj, ej⟩ := l_low (n := n) (N := N) (v := p1 >>> (7 &&& 31)) hn2 (by omega)
  have e24 : nI k = 24 ↔ k = 24 := nI_eq (b := 24) (by omega) (by omega)
  unfold fL_builds_119
  rw [h0, ei, bd1_ok, ej, bd1_ok, jn1_to _ (fun gg => if_ap gg)]
  generalize hz : (if (p1 &&& 12288) ≤ 0 then (0 : Int32) else 1) = z
  rw [lS_x hn (Or.inr (NIN_self (by omega))), bd4_ok, if_pos rfl, lS_x hn (Or.inl (NIN_m1 (by omega))), bd4_ok, if_pos rfl, h1]
  have eij : nI i = nI j ↔ i = j := nI_eq (by omega) (by omega)
  by_cases y1 : i = j
  · rw [if_pos (eij.mpr y1), lS_same hn (NIN_i hi), bd4_ok, if_pos rfl]
    exact ⟨n, k, a, b, ends, br, so, lo, ft, fg, rfl, hn2, hI⟩
  · have y1' : ¬ nI i = nI j := fun y => y1 (eij.mp y)
    rw [if_neg y1']
    by_cases y2 : k = 24
    · subst y2
      rw [if_pos (show nI 24 = 24 from rfl), lS_full hn (NIN_i hi) (NIN_i hj) y1', bd4_ok, if_pos rfl]
      exact ⟨n, 24, a, b, ends, br, so, lo, ft, fg, rfl, hn2, hI⟩
    · rw [if_neg (fun y => y2 (e24.mp y)), jn1_to _ (fun gg => if_ap gg), gin_ok (show k < 24 by omega) (by omega), lS_ok hn (by omega) (NIN_i hi) (NIN_i hj) y1', bd4_ok, nI_1, upd_s, nI_pred, if_pos rfl, nI_j (show k < 2 ^ 31 by omega)]
      have ea : ∀ s, s < k → (fun s => if s = k then i else a s) s = a s := fun s hs => if_neg (by omega)
      have eb : ∀ s, s < k → (fun s => if s = k then j else b s) s = b s := fun s hs => if_neg (by omega)
      have eN := cn_new (c := c) (a := a) (b := b) (a' := fun s => if s = k then i else a s) (b' := fun s => if s = k then j else b s) i3 ea eb
      have eCL : ∀ S, CL (k + 1) (fun s => if s = k then i else a s) (fun s => if s = k then j else b s) c S = CL k a b c S := fun S => by unfold CL; rw [eN]
      have hbk : bt br k = false := bF.mp (fun y => by have := hB k y; omega)
      have hbr : ∀ s, s ≤ k → bt (br ||| (if z = 0 then 0 else ((1 : Int32) <<< (nI k &&& 31)))) s = if s = k then decide (¬ z = 0) else bt br s := fun s hs => by
        rw [b_or]
        by_cases y : s = k
        · rw [if_pos y, y, hbk]
          by_cases y3 : z = 0
          · rw [if_pos y3, b_0]; simp [y3]
          · rw [if_neg y3, q_bit (by omega)]; simp [y3]
        · rw [if_neg y]
          by_cases y3 : z = 0
          · rw [if_pos y3, b_0, Bool.or_false]
          · rw [if_neg y3, q_bit (by omega)]; simp [y]
      refine ⟨n, k + 1, fun s => if s = k then i else a s, fun s => if s = k then j else b s, _, _, so, lo, _, _, rfl, hn2, ⟨hn, by omega, fun s hs' => ?_⟩, fun s hs' => ?_, add_in2 hB (by omega), ⟨i1, i2, inN_m i3 (by omega), i4, i5, fun x => by rw [eCL, eCL]; exact i6 x⟩, hd, ROWs_m hRd (Nat.le_refl n) (by omega), hr, ROWs_m hRr (Nat.le_refl n) (by omega), hg, hh, ⟨?_, upd_s, ?_, ?_, ?_, ?_, ?_⟩, fun s hs' => ?_, hS, hl, hq, hfh⟩
      · by_cases y : s = k
        · simp only [if_pos y]; exact ⟨hi, hj, y1⟩
        · simp only [if_neg y]; exact hs s (by omega)
      · unfold edg
        by_cases y : s = k
        · simp only [if_pos y]; rw [y, upd_s]
        · simp only [if_neg y]; rw [upd_o y]; exact he s (by omega)
      · rw [upd_o (by omega)]; exact h0
      · rw [upd_o (by omega)]; exact h2
      · rw [upd_o (by omega)]; exact h3
      · rw [upd_o (by omega)]; exact h4
      · rw [upd_o (by omega)]; exact h5
      · rw [upd_o (by omega)]; exact h6
      · rw [hbr s (by omega)]
        by_cases y : s = k
        · simp only [if_pos y]
          rw [y, upd_s]
          by_cases y3 : z = 0
          · rw [if_pos y3, tw_0 i (by omega) j (by omega), decide_eq_false (fun v => v y3)]
          · rw [if_neg y3, tw_1 i (by omega) j (by omega), decide_eq_true y3]
        · simp only [if_neg y]
          rw [upd_o y]
          exact hT s (by omega)
theorem x_builds {p1 : Int32} (hI : INV n k a b d r g ends br so lo c e o dac rac hol ft fc fl fq fh fg) :
    BOK c e o d r g dac rac hol fc fl fq fh (fL_builds N (nI n) (nI k) br so lo ends ft fg p1) := by
  have hn := hI.1.1
  have h0 := hI.2.2.2.2.2.2.2.2.2.2.1.1
  have l2 : nI n < 2 ↔ n < 2 := nI_ltI (b := 2) (by omega) (by omega)
  have l16 : (16 : Int32) ≤ nI n ↔ 16 ≤ n := nI_leI (a := 16) (by omega) (by omega)
  unfold fL_builds
  rw [h0]
  by_cases z1 : n < 2
  · rw [jn0_to (fun gg => if_pos (l2.mpr z1))]
    exact x_node hI (by omega)
  · by_cases z2 : (p1 &&& 6) = 0 ∧ n < 16
    · rw [jn0_to (fun gg => (if_neg (fun y => z1 (l2.mp y))).trans (jn0_out (fun gg2 => (if_pos z2.1).trans (if_neg (fun y => by have := l16.mp y; omega)))))]
      exact x_node hI z2.2
    · have t : ∀ (gg2 gg : Option (Int32 × Int32 × Int32 × (Nat → Int32) × Int32 × Int32 × (Nat → Int32) × (Nat → Int32))), (if (p1 &&& 6) = 0 then (if (16 : Int32) ≤ nI n then gg2 else gg) else gg2) = gg2 := fun gg2 gg => by
        by_cases y : (p1 &&& 6) = 0
        · rw [if_pos y, if_pos (l16.mpr (Classical.byContradiction (fun v => z2 ⟨y, by omega⟩)))]
        · rw [if_neg y]
      rw [jn0_out (fun gg => (if_neg (fun y => z1 (l2.mp y))).trans (jn0_to (fun gg2 => t gg2 gg)))]
      exact x_switch hI (by omega)
end BLD
