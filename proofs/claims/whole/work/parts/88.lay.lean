/-! the reference's toLive -/
section LAY
variable {n k : Nat} {a b : Nat → Nat} {ends one oth isb : Nat → Int32} {br so lo c e o : Int32} {N p : Nat}
def FA (n : Nat) (w : Nat → Int32) (f : Nat → Nat) : Prop := ∀ v, v < n → w v = nI (f v) ∧ f v ≤ 1000
def SND (n k : Nat) (a b : Nat → Nat) (c : Int32) (p : Nat) (f : Nat → Nat) : Prop := ∀ v, v < n → f v < 1000 → bt (RR k a b c p (f v)) v = true
def cst (c : Int32) (s : Nat) : Nat := if bt c s = true then 0 else 1
def RD (k : Nat) (a b : Nat → Nat) (c : Int32) (s : Nat) (f h : Nat → Nat) : Prop := (∀ v, h v ≤ f v) ∧ ∀ t, t < s → h (b t) ≤ f (a t) + cst c t ∧ h (a t) ≤ f (b t) + cst c t
def edgF {ρ : Type} (N : Nat) (sw : Int32) (one oth : Nat → Int32) (cl : Int32) (E : (Nat → Int32) → Option ρ) (g46_13 : Int32 → (Nat → Int32) → Option ρ) (x11 : Int32) (w12 : Nat → Int32) : Option ρ :=
  (if sw ≤ x11 then E w12 else bd1 (fX5_has N cl x11) (fun (v16 : Int32) => jn1 (fun (y18 : Int32) => gin x11 24 (gin (one x11.toNatClampNeg) 16 (gin x11 24 (gin (oth x11.toNatClampNeg) 16 (gin x11 24 (gin x11 24 (gin (oth x11.toNatClampNeg) 16 (jn1 (fun (y28 : Int32) => gin (oth x11.toNatClampNeg) 16 (gin x11 24 (gin x11 24 (gin (one x11.toNatClampNeg) 16 ((if ((upd w12 (oth x11.toNatClampNeg).toNatClampNeg y28) (one x11.toNatClampNeg).toNatClampNeg) ≤ ((w12 (oth x11.toNatClampNeg).toNatClampNeg) + y18) then gin x11 24 (gin (one x11.toNatClampNeg) 16 (gin (one x11.toNatClampNeg) 16 (g46_13 (x11 + 1) (upd (upd w12 (oth x11.toNatClampNeg).toNatClampNeg y28) (one x11.toNatClampNeg).toNatClampNeg ((upd w12 (oth x11.toNatClampNeg).toNatClampNeg y28) (one x11.toNatClampNeg).toNatClampNeg))))) else gin (one x11.toNatClampNeg) 16 (g46_13 (x11 + 1) (upd (upd w12 (oth x11.toNatClampNeg).toNatClampNeg y28) (one x11.toNatClampNeg).toNatClampNeg ((w12 (oth x11.toNatClampNeg).toNatClampNeg) + y18))))))))) (fun (g146_29 : Int32 → Option ρ) => (if (w12 (oth x11.toNatClampNeg).toNatClampNeg) ≤ ((w12 (one x11.toNatClampNeg).toNatClampNeg) + y18) then gin x11 24 (gin (oth x11.toNatClampNeg) 16 (g146_29 (w12 (oth x11.toNatClampNeg).toNatClampNeg))) else g146_29 ((w12 (one x11.toNatClampNeg).toNatClampNeg) + y18))))))))))) (fun (g70_19 : Int32 → Option ρ) => (if v16 = 0 then g70_19 1 else g70_19 0))))
def rndF (N : Nat) (nd sw : Int32) (one oth : Nat → Int32) (cl : Int32) (g36_8 : Int32 → (Nat → Int32) → Option (Nat → Int32)) (x6 : Int32) (w7 : Nat → Int32) : Option (Nat → Int32) :=
  (if nd ≤ x6 then some w7 else it2 (edgF N sw one oth cl (fun w => g36_8 (x6 + 1) w)) N 0 w7)
theorem lay_eq {th nd sw ea on lg wr pe p0 : Int32} {far : Nat → Int32} : fX5_laysFar N th nd sw so lo c ea on lg wr pe one oth far p0 = it2 (fun (g2_3 : Int32 → (Nat → Int32) → Option (Nat → Int32)) (x1 : Int32) (w2 : Nat → Int32) => (if nd ≤ x1 then it2 (rndF N nd sw one oth c) N 0 w2 else (if x1 = p0 then gin x1 16 (g2_3 (x1 + 1) (upd w2 x1.toNatClampNeg 0)) else gin x1 16 (g2_3 (x1 + 1) (upd w2 x1.toNatClampNeg 1000))))) N 0 far := rfl
theorem m_edges {ρ : Type} {E : (Nat → Int32) → Option ρ} {w : Nat → Int32} {f : Nat → Nat} (hG : GR n k a b) (h1 : ∀ s, s < k → one s = nI (a s)) (h2 : ∀ s, s < k → oth s = nI (b s)) (hp : p < n) (hN : 40 ≤ N) (hf : FA n w f) (hS : SND n k a b c p f) :
    ∃ w' f', it2 (edgF N (nI k) one oth c E) N 0 w = E w' ∧ FA n w' f' ∧ SND n k a b c p f' ∧ RD k a b c k f f' := by
  have hn := hG.1
  have hk := hG.2.1
  obtain ⟨y, ⟨f', i1, i2, i3⟩, e⟩ := it2_inv (n := k) (F := edgF N (nI k) one oth c E) (fun s X => ∃ h, FA n X h ∧ SND n k a b c p h ∧ RD k a b c s f h) E (by
    intro g X hX
    unfold edgF
    rw [if_pos (nI_le (Nat.le_refl k) (by omega))]) (by
    rintro g s X hs ⟨h, j1, j2, j3, j4⟩
    obtain ⟨ha, hb, hab⟩ := hG.2.2 s hs
    obtain ⟨xa, ya⟩ := j1 (a s) ha
    obtain ⟨xb, yb⟩ := j1 (b s) hb
    have hc : (if (if bt c s = true then (1 : Int32) else 0) = 0 then (1 : Int32) else 0) = nI (cst c s) := by
      unfold cst
      by_cases z : bt c s = true
      · rw [if_pos z, if_pos z, if_neg (by decide)]; rfl
      · rw [if_neg z, if_neg z, if_pos rfl]; rfl
    have hcl : cst c s ≤ 1 := by unfold cst; split <;> omega
    have hba : ¬ a s = b s := hab
    have body : ∃ ya' yb', ya' = min (h (a s)) (h (b s) + cst c s) ∧ yb' = min (h (b s)) (h (a s) + cst c s) ∧ edgF N (nI k) one oth c E g (nI s) X = g (nI (s + 1)) (upd (upd X (b s) (nI yb')) (a s) (nI ya')) := by
      refine ⟨_, _, rfl, rfl, ?_⟩
      unfold edgF
      rw [if_neg (nI_gt hs (by omega)), p_has (by omega), bd1_ok]
      have jn10 : ∀ {ρ : Type} (K : Int32 → Option ρ) (v : Int32), jn1 K (fun q => if v = 0 then q 1 else q 0) = K (if v = 0 then 1 else 0) := fun K v => by
        unfold jn1; split <;> rfl
      rw [jn10, hc]
      simp only [gin_ok (show s < 24 by omega) (show 24 < 2 ^ 31 by omega), nI_j (show s < 2 ^ 31 by omega), h1 s hs, h2 s hs, gin_ok (show a s < 16 by omega) (show 16 < 2 ^ 31 by omega), gin_ok (show b s < 16 by omega) (show 16 < 2 ^ 31 by omega), nI_j (show a s < 2 ^ 31 by omega), nI_j (show b s < 2 ^ 31 by omega), upd_o hba, xa, xb, nI_add, nI_1]
      simp only [jn1]
      have q1 : (if nI (h (b s)) ≤ nI (h (a s) + cst c s) then nI (h (b s)) else nI (h (a s) + cst c s)) = nI (min (h (b s)) (h (a s) + cst c s)) := by
        by_cases z : h (b s) ≤ h (a s) + cst c s
        · rw [if_pos (nI_le z (by omega)), Nat.min_eq_left z]
        · rw [if_neg (nI_ge (by omega) (by omega)), Nat.min_eq_right (by omega)]
      by_cases z : h (b s) ≤ h (a s) + cst c s
      · rw [if_pos (nI_le z (by omega)), Nat.min_eq_left z]
        by_cases z2 : h (a s) ≤ h (b s) + cst c s
        · rw [if_pos (nI_le z2 (by omega)), Nat.min_eq_left z2]
        · rw [if_neg (nI_ge (by omega) (by omega)), Nat.min_eq_right (by omega)]
      · rw [if_neg (nI_ge (by omega) (by omega)), Nat.min_eq_right (by omega)]
        by_cases z2 : h (a s) ≤ h (b s) + cst c s
        · rw [if_pos (nI_le z2 (by omega)), Nat.min_eq_left z2]
        · rw [if_neg (nI_ge (by omega) (by omega)), Nat.min_eq_right (by omega)]
    obtain ⟨ya', yb', ea, eb, body⟩ := body
    refine ⟨_, ⟨fun v => if v = a s then ya' else if v = b s then yb' else h v, fun v hv => ?_, fun v hv => ?_, fun v => ?_, fun t ht => ?_⟩, body⟩
    · by_cases z : v = a s
      · simp only [if_pos z]
        rw [z, upd_s]
        exact ⟨rfl, by omega⟩
      · rw [upd_o z]
        simp only [if_neg z]
        by_cases z2 : v = b s
        · simp only [if_pos z2]
          rw [z2, upd_s]
          exact ⟨rfl, by omega⟩
        · simp only [if_neg z2]
          rw [upd_o z2]
          exact j1 v hv
    · have cross : ∀ i, (bt (RR k a b c p i) (a s) = true → bt (RR k a b c p (i + cst c s)) (b s) = true) ∧ (bt (RR k a b c p i) (b s) = true → bt (RR k a b c p (i + cst c s)) (a s) = true) := fun i => by
        unfold cst
        by_cases z : bt c s = true
        · rw [if_pos z]
          exact ⟨fun h => RR_cl hG hp (cn.ed hs z) i h, fun h => RR_cl hG hp (cn.ed hs z).sm i h⟩
        · rw [if_neg z]
          exact ⟨fun h => (RR_ed hG hp hs (Or.inl h)).2, fun h => (RR_ed hG hp hs (Or.inr h)).1⟩
      by_cases z : v = a s
      · simp only [if_pos z]
        intro hl
        rw [z, ea]
        rw [ea] at hl
        by_cases z2 : h (a s) ≤ h (b s) + cst c s
        · rw [Nat.min_eq_left z2] at hl ⊢
          exact j2 _ ha hl
        · rw [Nat.min_eq_right (by omega)] at hl ⊢
          exact (cross _).2 (j2 _ hb (by omega))
      · simp only [if_neg z]
        by_cases z2 : v = b s
        · simp only [if_pos z2]
          intro hl
          rw [z2, eb]
          rw [eb] at hl
          by_cases z3 : h (b s) ≤ h (a s) + cst c s
          · rw [Nat.min_eq_left z3] at hl ⊢
            exact j2 _ hb hl
          · rw [Nat.min_eq_right (by omega)] at hl ⊢
            exact (cross _).1 (j2 _ ha (by omega))
        · simp only [if_neg z2]
          exact j2 v hv
    · have := j3 v
      by_cases z : v = a s
      · simp only [if_pos z]
        rw [z] at this
        rw [z]
        omega
      · simp only [if_neg z]
        by_cases z2 : v = b s
        · simp only [if_pos z2]
          rw [z2] at this
          rw [z2]
          omega
        · simp only [if_neg z2]
          exact this
    · have low : ∀ v, (if v = a s then ya' else if v = b s then yb' else h v) ≤ h v := fun v => by
        by_cases z : v = a s
        · simp only [if_pos z]; rw [z]; omega
        · simp only [if_neg z]
          by_cases z2 : v = b s
          · simp only [if_pos z2]; rw [z2]; omega
          · simp only [if_neg z2]; omega
      by_cases z : t = s
      · rw [z]
        have := j3 (a s)
        have := j3 (b s)
        simp only [if_neg (show ¬ b s = a s from fun y => hab y.symm), if_true]
        omega
      · have := j4 t (by omega)
        have := low (a t)
        have := low (b t)
        constructor
        · exact Nat.le_trans (low (b t)) (j4 t (by omega)).1
        · exact Nat.le_trans (low (a t)) (j4 t (by omega)).2) N 0 w (Nat.zero_le _) (by omega) ⟨f, hf, hS, fun v => Nat.le_refl _, fun t ht => absurd ht (Nat.not_lt_zero t)⟩
  rw [nI_0] at e
  exact ⟨y, f', e, i1, i2, i3⟩
/-- as near as it is -/
def stl (k : Nat) (a b : Nat → Nat) (c : Int32) (p : Nat) (f : Nat → Nat) (v : Nat) : Prop := ∀ i, bt (RR k a b c p i) v = true → f v ≤ i
noncomputable def stB (k : Nat) (a b : Nat → Nat) (c : Int32) (p : Nat) (f : Nat → Nat) (v : Nat) : Bool := @decide (stl k a b c p f v) (Classical.propDecidable _)
theorem stB_t {f : Nat → Nat} {v : Nat} : stB k a b c p f v = true ↔ stl k a b c p f v := by
  unfold stB
  rw [@decide_eq_true_iff _ (Classical.propDecidable _)]
theorem least {P : Nat → Prop} : ∀ m, P m → ∃ i, P i ∧ ∀ j, j < i → ¬ P j := by
  intro m
  induction m using Nat.strongRecOn with
  | ind m ih =>
    intro hm
    by_cases q : ∃ j, j < m ∧ P j
    · obtain ⟨j, h1, h2⟩ := q
      exact ih j h1 h2
    · exact ⟨m, hm, fun j h1 h2 => q ⟨j, h1, h2⟩⟩
/-- a round settles one more -/
theorem stl_more {f f' : Nat → Nat} (hG : GR n k a b) (hp : p < n) (hR : RD k a b c k f f') (h0 : f p = 0) {v : Nat} (hv : v < n) (hu : ¬ stl k a b c p f v) : ∃ x, x < n ∧ ¬ stl k a b c p f x ∧ stl k a b c p f' x := by
  have hex : ∃ m, ∃ x, x < n ∧ bt (RR k a b c p m) x = true ∧ m < f x := by
    refine Classical.byContradiction (fun z => hu (fun i hi => ?_))
    exact Nat.le_of_not_lt (fun y => z ⟨i, v, hv, hi, y⟩)
  obtain ⟨m, hm⟩ := hex
  obtain ⟨i, ⟨x, hx, hxi, hxf⟩, hmin⟩ := least (P := fun m => ∃ x, x < n ∧ bt (RR k a b c p m) x = true ∧ m < f x) m hm
  have hle : ∀ j, j < i → ∀ y, bt (RR k a b c p j) y = true → f y ≤ j := fun j hj y hy => Nat.le_of_not_lt (fun z => hmin j hj ⟨y, RR_in hG hp j y hy, hy, z⟩)
  have fin : ∀ y, bt (RR k a b c p i) y = true → i < f y → f' y ≤ i → ∃ x, x < n ∧ ¬ stl k a b c p f x ∧ stl k a b c p f' x := fun y h1 h2 h3 => by
    refine ⟨y, RR_in hG hp i y h1, fun z => ?_, fun j hj => ?_⟩
    · have := z i h1; omega
    · by_cases q : j < i
      · have := hle j q y hj
        omega
      · omega
  by_cases hE : ∃ s, s < k ∧ bt c s = true ∧ ¬ ((bt (RR k a b c p i) (a s) = true ∧ i < f (a s)) ↔ (bt (RR k a b c p i) (b s) = true ∧ i < f (b s)))
  · obtain ⟨s, hs, hc, hne⟩ := hE
    have c0 : cst c s = 0 := by unfold cst; rw [if_pos hc]
    have hr := hR.2 s hs
    rw [c0] at hr
    by_cases q : bt (RR k a b c p i) (a s) = true
    · have q2 := RR_cl hG hp (cn.ed hs hc) i q
      by_cases z : i < f (a s)
      · have : ¬ i < f (b s) := fun y => hne ⟨fun _ => ⟨q2, y⟩, fun _ => ⟨q, z⟩⟩
        exact fin (a s) q z (by omega)
      · have : i < f (b s) := Classical.byContradiction (fun y => hne ⟨fun w => absurd w.2 z, fun w => absurd w.2 y⟩)
        exact fin (b s) q2 this (by omega)
    · have q2 : ¬ bt (RR k a b c p i) (b s) = true := fun y => q (RR_cl hG hp (cn.ed hs hc).sm i y)
      exact absurd ⟨fun w => absurd w.1 q, fun w => absurd w.1 q2⟩ hne
  · have cl : ∀ u, cn k a b c u x → bt (RR k a b c p i) u = true ∧ i < f u := fun u hu => (hu (fun y => bt (RR k a b c p i) y = true ∧ i < f y) (fun s hs hc => Classical.byContradiction (fun z => hE ⟨s, hs, hc, z⟩))).mpr ⟨hxi, hxf⟩
    cases i with
    | zero =>
      obtain ⟨u, u1, u2⟩ := (CL_bt hG (q_bitN hG.1 hp)).mp hxi
      have : u = p := (q_bitT (by have := hG.1; omega)).mp u1
      rw [this] at u2
      have := (cl p u2).2
      omega
    | succ j =>
      obtain ⟨u, u1, u2⟩ := (CL_bt hG (WN_in hG (RR_in hG hp j))).mp hxi
      obtain ⟨w1, w2⟩ := cl u u2
      rcases (WNx_bt hG k (Nat.le_refl k)).mp u1 with z | ⟨s, hs, z1, z2⟩
      · have := hle j (by omega) u z
        omega
      · have hr := hR.2 s hs
        have hcl : cst c s ≤ 1 := by unfold cst; split <;> omega
        rcases z1 with z1 | z1
        · have h5 := hle j (by omega) _ z1
          rcases z2 with z2 | z2
          · rw [z2] at w2; omega
          · exact fin u w1 w2 (by rw [z2]; omega)
        · have h5 := hle j (by omega) _ z1
          rcases z2 with z2 | z2
          · exact fin u w1 w2 (by rw [z2]; omega)
          · rw [z2] at w2; omega
end LAY
