def INV (n k : Nat) (a b : Nat → Nat) (d r g : Nat) (br so lo : Int32) (ends : Nat → Int32) (cl ea on : Int32) (dac rac hol : Nat → Int32) (one oth isb log seq mho mih : Nat → Int32) : Prop := HC n k a b ends one oth isb br ∧ inN k br ∧ HS n k a b so lo cl ea on ∧ d ≤ 200 ∧ RW n k d dac log ∧ r ≤ 30 ∧ RW n k r rac seq ∧ HP n g hol mho mih
def GO (gL : (Nat) → (Int32) → (Int32) → (Int32) → (Int32) → (Int32) → (Int32) → (Nat → Int32) → (Int32) → (Int32) → (Int32) → (Int32) → (Nat → Int32) → (Int32) → (Nat → Int32) → (Int32) → (Nat → Int32) → (Int32) → (Int32) → (Int32) → (Int32) → (Int32) → (Int32) → (Int32) → (Int32) → (Int32) → (Int32) → (Int32) → (Int32) → (Int32) → (Int32) → (Int32) → (Int32) → (Int32) → (Nat → Int32) → (Nat → Int32) → (Nat → Int32) → (Nat → Int32) → (Nat → Int32) → (Nat → Int32) → (Nat → Int32) → (Nat → Int32) → (Nat → Int64) → Option Unit) (jj : Nat) : Prop := ∀ (n k : Nat) (a b : Nat → Nat) (d r g : Nat) (br so lo : Int32) (ends : Nat → Int32) (cl ea on : Int32) (dac rac hol : Nat → Int32) (tc te to ac ae ao th : Int32) (one oth isb log seq mho mih : Nat → Int32) (far : Nat → Int32) (out : Nat → Int64), INV n k a b d r g br so lo ends cl ea on dac rac hol one oth isb log seq mho mih → gL (jj + 1) (nI (4 * (jj + 1))) (nI n) (nI k) br so lo ends cl ea on (nI d) dac (nI r) rac (nI g) hol tc te to ac ae ao th (nI n) (nI k) so lo cl ea on (nI d) (nI r) (nI g) one oth isb log seq mho mih far out = some ()
theorem jn_if {ρ : Type} {c : Prop} [Decidable c] {K : Int32 → Option ρ} : jn1 K (fun g => if c then g 0 else g 1) = K (if c then 0 else 1) := by
  unfold jn1
  split <;> rfl
theorem fin_ok {code v : Int32} {out' : Nat → Int64} {G : Option Unit} (h : OK1 code v out') (hG : G = some ()) : (if code = code then (if code = 0 then (if (lg_cmp (out' (0 : Int32).toNatClampNeg) v.toInt64) = 0 then G else none) else G) else none) = some () := by
  rw [if_pos rfl]
  by_cases q : code = 0
  · rw [if_pos q, if_pos ((lg_cmp_eq _ _).mpr (h q)), hG]
  · rw [if_neg q, hG]
theorem if01 {c : Prop} [Decidable c] : (if c then (0 : Int32) else 1) = 0 ∨ (if c then (0 : Int32) else 1) = 1 := by
  split
  · exact Or.inl rfl
  · exact Or.inr rfl
theorem cs_0 {N L : Nat} {xs : Nat → Int32} {gL : (Nat) → (Int32) → (Int32) → (Int32) → (Int32) → (Int32) → (Int32) → (Nat → Int32) → (Int32) → (Int32) → (Int32) → (Int32) → (Nat → Int32) → (Int32) → (Nat → Int32) → (Int32) → (Nat → Int32) → (Int32) → (Int32) → (Int32) → (Int32) → (Int32) → (Int32) → (Int32) → (Int32) → (Int32) → (Int32) → (Int32) → (Int32) → (Int32) → (Int32) → (Int32) → (Int32) → (Int32) → (Nat → Int32) → (Nat → Int32) → (Nat → Int32) → (Nat → Int32) → (Nat → Int32) → (Nat → Int32) → (Nat → Int32) → (Nat → Int32) → (Nat → Int64) → Option Unit} {jj : Nat} {n k : Nat} {a b : Nat → Nat} {d r g : Nat} {br so lo : Int32} {ends : Nat → Int32} {cl ea on : Int32} {dac rac hol : Nat → Int32} {tc te to ac ae ao th : Int32} {one oth isb log seq mho mih : Nat → Int32} {far : Nat → Int32} {out : Nat → Int64} (hN : 300 ≤ N) (hL : 4 * jj + 4 ≤ L) (hLL : L ≤ 2048) (hg : GO gL jj) (hI : INV n k a b d r g br so lo ends cl ea on dac rac hol one oth isb log seq mho mih) :
    fL_c0 N L xs gL jj (nI (4 * jj)) (nI n) (nI k) br so lo ends cl ea on (nI d) dac (nI r) rac (nI g) hol tc te to ac ae ao th (nI n) (nI k) so lo cl ea on (nI d) (nI r) (nI g) one oth isb log seq mho mih far out = some () := by
  obtain ⟨i1, i2, i3, i4, i5, i6, i7, i8⟩ := id hI
  have h40 : 40 ≤ N := by omega
  have g1 : ∀ {α : Type} (q : Option α), gin (nI (4 * jj) + 1) L q = q := fun q => by rw [nI_1, gin_ok (by omega) (by omega)]
  have g2 : ∀ {α : Type} (q : Option α), gin (nI (4 * jj) + 2) L q = q := fun q => by rw [show nI (4 * jj) + 2 = nI (4 * jj + 2) from nI_add (4 * jj) 2, gin_ok (by omega) (by omega)]
  have g3 : ∀ {α : Type} (q : Option α), gin (nI (4 * jj) + 3) L q = q := fun q => by rw [show nI (4 * jj) + 3 = nI (4 * jj + 3) from nI_add (4 * jj) 3, gin_ok (by omega) (by omega)]
  have g4 : nI (4 * jj) + 4 = nI (4 * (jj + 1)) := nI_add (4 * jj) 4
  unfold fL_c0
  rw [g4]
  simp only [g1, g2, g3, jn_if]
  obtain ⟨code, v, out', n', so', lo', e1, e2, e3, e4, e5, e6⟩ := op_addNode (N := N) (out := out) (th := th) (cl := cl) (ea := ea) (on := on) (lg := nI d) (wr := nI r) (pe := nI g) (p0 := (if xs (nI (4 * jj) + 1).toNatClampNeg = 0 then 0 else 1)) (p1 := (if xs (nI (4 * jj) + 2).toNatClampNeg = 0 then 0 else 1)) i1 i3
  rw [e1, bd5_ok, e2, bd5_ok]
  unfold fX5_thrown
  rw [bd1_ok]
  exact fin_ok e3 (hg _ _ _ _ _ _ _ _ _ _ _ _ _ _ _ _ _ _ _ _ _ _ _ _ _ _ _ _ _ _ _ _ _ ⟨e4, i2, e5, i4, RW_m i5 e6 (Nat.le_refl _), i6, RW_m i7 e6 (Nat.le_refl _), HP_m i8 e6⟩)
theorem cs_1 {N L : Nat} {xs : Nat → Int32} {gL : (Nat) → (Int32) → (Int32) → (Int32) → (Int32) → (Int32) → (Int32) → (Nat → Int32) → (Int32) → (Int32) → (Int32) → (Int32) → (Nat → Int32) → (Int32) → (Nat → Int32) → (Int32) → (Nat → Int32) → (Int32) → (Int32) → (Int32) → (Int32) → (Int32) → (Int32) → (Int32) → (Int32) → (Int32) → (Int32) → (Int32) → (Int32) → (Int32) → (Int32) → (Int32) → (Int32) → (Int32) → (Nat → Int32) → (Nat → Int32) → (Nat → Int32) → (Nat → Int32) → (Nat → Int32) → (Nat → Int32) → (Nat → Int32) → (Nat → Int32) → (Nat → Int64) → Option Unit} {jj : Nat} {n k : Nat} {a b : Nat → Nat} {d r g : Nat} {br so lo : Int32} {ends : Nat → Int32} {cl ea on : Int32} {dac rac hol : Nat → Int32} {tc te to ac ae ao th : Int32} {one oth isb log seq mho mih : Nat → Int32} {far : Nat → Int32} {out : Nat → Int64} (hN : 300 ≤ N) (hL : 4 * jj + 4 ≤ L) (hLL : L ≤ 2048) (hg : GO gL jj) (hI : INV n k a b d r g br so lo ends cl ea on dac rac hol one oth isb log seq mho mih) :
    fL_c1 N L xs gL jj (nI (4 * jj)) (nI n) (nI k) br so lo ends cl ea on (nI d) dac (nI r) rac (nI g) hol tc te to ac ae ao th (nI n) (nI k) so lo cl ea on (nI d) (nI r) (nI g) one oth isb log seq mho mih far out = some () := by
  obtain ⟨i1, i2, i3, i4, i5, i6, i7, i8⟩ := id hI
  have h40 : 40 ≤ N := by omega
  have g1 : ∀ {α : Type} (q : Option α), gin (nI (4 * jj) + 1) L q = q := fun q => by rw [nI_1, gin_ok (by omega) (by omega)]
  have g2 : ∀ {α : Type} (q : Option α), gin (nI (4 * jj) + 2) L q = q := fun q => by rw [show nI (4 * jj) + 2 = nI (4 * jj + 2) from nI_add (4 * jj) 2, gin_ok (by omega) (by omega)]
  have g3 : ∀ {α : Type} (q : Option α), gin (nI (4 * jj) + 3) L q = q := fun q => by rw [show nI (4 * jj) + 3 = nI (4 * jj + 3) from nI_add (4 * jj) 3, gin_ok (by omega) (by omega)]
  have g4 : nI (4 * jj) + 4 = nI (4 * (jj + 1)) := nI_add (4 * jj) 4
  unfold fL_c1
  rw [g4]
  simp only [g1, g2, g3, jn_if]
  obtain ⟨code, v, out', k', a', b', ends', br', one', oth', isb', e1, e2, e3, e4, e5, e6, e7⟩ := op_addSwitch (N := N) (out := out) (th := th) (lg := nI d) (wr := nI r) (pe := nI g) (p0 := (xs (nI (4 * jj) + 1).toNatClampNeg)) (p1 := (xs (nI (4 * jj) + 2).toNatClampNeg)) (p2 := (if xs (nI (4 * jj) + 3).toNatClampNeg = 0 then 0 else 1)) i1 i3 i2 if01
  rw [e1, bd5_ok, e2, bd6_ok]
  unfold fX5_thrown
  rw [bd1_ok]
  exact fin_ok e3 (hg _ _ _ _ _ _ _ _ _ _ _ _ _ _ _ _ _ _ _ _ _ _ _ _ _ _ _ _ _ _ _ _ _ ⟨e4, e6, e5, i4, RW_m i5 (Nat.le_refl _) e7, i6, RW_m i7 (Nat.le_refl _) e7, i8⟩)
theorem cs_2 {N L : Nat} {xs : Nat → Int32} {gL : (Nat) → (Int32) → (Int32) → (Int32) → (Int32) → (Int32) → (Int32) → (Nat → Int32) → (Int32) → (Int32) → (Int32) → (Int32) → (Nat → Int32) → (Int32) → (Nat → Int32) → (Int32) → (Nat → Int32) → (Int32) → (Int32) → (Int32) → (Int32) → (Int32) → (Int32) → (Int32) → (Int32) → (Int32) → (Int32) → (Int32) → (Int32) → (Int32) → (Int32) → (Int32) → (Int32) → (Int32) → (Nat → Int32) → (Nat → Int32) → (Nat → Int32) → (Nat → Int32) → (Nat → Int32) → (Nat → Int32) → (Nat → Int32) → (Nat → Int32) → (Nat → Int64) → Option Unit} {jj : Nat} {n k : Nat} {a b : Nat → Nat} {d r g : Nat} {br so lo : Int32} {ends : Nat → Int32} {cl ea on : Int32} {dac rac hol : Nat → Int32} {tc te to ac ae ao th : Int32} {one oth isb log seq mho mih : Nat → Int32} {far : Nat → Int32} {out : Nat → Int64} (hN : 300 ≤ N) (hL : 4 * jj + 4 ≤ L) (hLL : L ≤ 2048) (hg : GO gL jj) (hI : INV n k a b d r g br so lo ends cl ea on dac rac hol one oth isb log seq mho mih) :
    fL_c2 N L xs gL jj (nI (4 * jj)) (nI n) (nI k) br so lo ends cl ea on (nI d) dac (nI r) rac (nI g) hol tc te to ac ae ao th (nI n) (nI k) so lo cl ea on (nI d) (nI r) (nI g) one oth isb log seq mho mih far out = some () := by
  obtain ⟨i1, i2, i3, i4, i5, i6, i7, i8⟩ := id hI
  have h40 : 40 ≤ N := by omega
  have g1 : ∀ {α : Type} (q : Option α), gin (nI (4 * jj) + 1) L q = q := fun q => by rw [nI_1, gin_ok (by omega) (by omega)]
  have g2 : ∀ {α : Type} (q : Option α), gin (nI (4 * jj) + 2) L q = q := fun q => by rw [show nI (4 * jj) + 2 = nI (4 * jj + 2) from nI_add (4 * jj) 2, gin_ok (by omega) (by omega)]
  have g3 : ∀ {α : Type} (q : Option α), gin (nI (4 * jj) + 3) L q = q := fun q => by rw [show nI (4 * jj) + 3 = nI (4 * jj + 3) from nI_add (4 * jj) 3, gin_ok (by omega) (by omega)]
  have g4 : nI (4 * jj) + 4 = nI (4 * (jj + 1)) := nI_add (4 * jj) 4
  unfold fL_c2
  rw [g4]
  unfold fX4_nodes fX1_nodeCount fX5_nodes
  rw [bd1_ok, bd1_ok, bd2_ok, if_pos rfl]
  exact hg _ _ _ _ _ _ _ _ _ _ _ _ _ _ _ _ _ _ _ _ _ _ _ _ _ _ _ _ _ _ _ _ _ hI
theorem cs_3 {N L : Nat} {xs : Nat → Int32} {gL : (Nat) → (Int32) → (Int32) → (Int32) → (Int32) → (Int32) → (Int32) → (Nat → Int32) → (Int32) → (Int32) → (Int32) → (Int32) → (Nat → Int32) → (Int32) → (Nat → Int32) → (Int32) → (Nat → Int32) → (Int32) → (Int32) → (Int32) → (Int32) → (Int32) → (Int32) → (Int32) → (Int32) → (Int32) → (Int32) → (Int32) → (Int32) → (Int32) → (Int32) → (Int32) → (Int32) → (Int32) → (Nat → Int32) → (Nat → Int32) → (Nat → Int32) → (Nat → Int32) → (Nat → Int32) → (Nat → Int32) → (Nat → Int32) → (Nat → Int32) → (Nat → Int64) → Option Unit} {jj : Nat} {n k : Nat} {a b : Nat → Nat} {d r g : Nat} {br so lo : Int32} {ends : Nat → Int32} {cl ea on : Int32} {dac rac hol : Nat → Int32} {tc te to ac ae ao th : Int32} {one oth isb log seq mho mih : Nat → Int32} {far : Nat → Int32} {out : Nat → Int64} (hN : 300 ≤ N) (hL : 4 * jj + 4 ≤ L) (hLL : L ≤ 2048) (hg : GO gL jj) (hI : INV n k a b d r g br so lo ends cl ea on dac rac hol one oth isb log seq mho mih) :
    fL_c3 N L xs gL jj (nI (4 * jj)) (nI n) (nI k) br so lo ends cl ea on (nI d) dac (nI r) rac (nI g) hol tc te to ac ae ao th (nI n) (nI k) so lo cl ea on (nI d) (nI r) (nI g) one oth isb log seq mho mih far out = some () := by
  obtain ⟨i1, i2, i3, i4, i5, i6, i7, i8⟩ := id hI
  have h40 : 40 ≤ N := by omega
  have g1 : ∀ {α : Type} (q : Option α), gin (nI (4 * jj) + 1) L q = q := fun q => by rw [nI_1, gin_ok (by omega) (by omega)]
  have g2 : ∀ {α : Type} (q : Option α), gin (nI (4 * jj) + 2) L q = q := fun q => by rw [show nI (4 * jj) + 2 = nI (4 * jj + 2) from nI_add (4 * jj) 2, gin_ok (by omega) (by omega)]
  have g3 : ∀ {α : Type} (q : Option α), gin (nI (4 * jj) + 3) L q = q := fun q => by rw [show nI (4 * jj) + 3 = nI (4 * jj + 3) from nI_add (4 * jj) 3, gin_ok (by omega) (by omega)]
  have g4 : nI (4 * jj) + 4 = nI (4 * (jj + 1)) := nI_add (4 * jj) 4
  unfold fL_c3
  rw [g4]
  unfold fX4_switches fX1_switchCount fX5_switches
  rw [bd1_ok, bd1_ok, bd2_ok, if_pos rfl]
  exact hg _ _ _ _ _ _ _ _ _ _ _ _ _ _ _ _ _ _ _ _ _ _ _ _ _ _ _ _ _ _ _ _ _ hI
theorem cs_4 {N L : Nat} {xs : Nat → Int32} {gL : (Nat) → (Int32) → (Int32) → (Int32) → (Int32) → (Int32) → (Int32) → (Nat → Int32) → (Int32) → (Int32) → (Int32) → (Int32) → (Nat → Int32) → (Int32) → (Nat → Int32) → (Int32) → (Nat → Int32) → (Int32) → (Int32) → (Int32) → (Int32) → (Int32) → (Int32) → (Int32) → (Int32) → (Int32) → (Int32) → (Int32) → (Int32) → (Int32) → (Int32) → (Int32) → (Int32) → (Int32) → (Nat → Int32) → (Nat → Int32) → (Nat → Int32) → (Nat → Int32) → (Nat → Int32) → (Nat → Int32) → (Nat → Int32) → (Nat → Int32) → (Nat → Int64) → Option Unit} {jj : Nat} {n k : Nat} {a b : Nat → Nat} {d r g : Nat} {br so lo : Int32} {ends : Nat → Int32} {cl ea on : Int32} {dac rac hol : Nat → Int32} {tc te to ac ae ao th : Int32} {one oth isb log seq mho mih : Nat → Int32} {far : Nat → Int32} {out : Nat → Int64} (hN : 300 ≤ N) (hL : 4 * jj + 4 ≤ L) (hLL : L ≤ 2048) (hg : GO gL jj) (hI : INV n k a b d r g br so lo ends cl ea on dac rac hol one oth isb log seq mho mih) :
    fL_c4 N L xs gL jj (nI (4 * jj)) (nI n) (nI k) br so lo ends cl ea on (nI d) dac (nI r) rac (nI g) hol tc te to ac ae ao th (nI n) (nI k) so lo cl ea on (nI d) (nI r) (nI g) one oth isb log seq mho mih far out = some () := by
  obtain ⟨i1, i2, i3, i4, i5, i6, i7, i8⟩ := id hI
  have h40 : 40 ≤ N := by omega
  have g1 : ∀ {α : Type} (q : Option α), gin (nI (4 * jj) + 1) L q = q := fun q => by rw [nI_1, gin_ok (by omega) (by omega)]
  have g2 : ∀ {α : Type} (q : Option α), gin (nI (4 * jj) + 2) L q = q := fun q => by rw [show nI (4 * jj) + 2 = nI (4 * jj + 2) from nI_add (4 * jj) 2, gin_ok (by omega) (by omega)]
  have g3 : ∀ {α : Type} (q : Option α), gin (nI (4 * jj) + 3) L q = q := fun q => by rw [show nI (4 * jj) + 3 = nI (4 * jj + 3) from nI_add (4 * jj) 3, gin_ok (by omega) (by omega)]
  have g4 : nI (4 * jj) + 4 = nI (4 * (jj + 1)) := nI_add (4 * jj) 4
  unfold fL_c4
  rw [g4]
  simp only [g1, g2, g3, jn_if]
  obtain ⟨code, v, out', c', e', o', d', dac', log', x, y, z, e1, e2, e3, e4, e5, e6⟩ := op_act (N := N) (out := out) (ac := ac) (ae := ae) (ao := ao) (th := th) (wr := nI r) (p0 := (xs (nI (4 * jj) + 1).toNatClampNeg)) (p1 := (xs (nI (4 * jj) + 2).toNatClampNeg)) i1 i3 i8 i4 i5 h40
  rw [e1, bd10_ok, e2, bd7_ok]
  unfold fX5_thrown
  rw [bd1_ok]
  exact fin_ok e3 (hg _ _ _ _ _ _ _ _ _ _ _ _ _ _ _ _ _ _ _ _ _ _ _ _ _ _ _ _ _ _ _ _ _ ⟨i1, i2, e4, e5, e6, i6, i7, i8⟩)
theorem cs_5 {N L : Nat} {xs : Nat → Int32} {gL : (Nat) → (Int32) → (Int32) → (Int32) → (Int32) → (Int32) → (Int32) → (Nat → Int32) → (Int32) → (Int32) → (Int32) → (Int32) → (Nat → Int32) → (Int32) → (Nat → Int32) → (Int32) → (Nat → Int32) → (Int32) → (Int32) → (Int32) → (Int32) → (Int32) → (Int32) → (Int32) → (Int32) → (Int32) → (Int32) → (Int32) → (Int32) → (Int32) → (Int32) → (Int32) → (Int32) → (Int32) → (Nat → Int32) → (Nat → Int32) → (Nat → Int32) → (Nat → Int32) → (Nat → Int32) → (Nat → Int32) → (Nat → Int32) → (Nat → Int32) → (Nat → Int64) → Option Unit} {jj : Nat} {n k : Nat} {a b : Nat → Nat} {d r g : Nat} {br so lo : Int32} {ends : Nat → Int32} {cl ea on : Int32} {dac rac hol : Nat → Int32} {tc te to ac ae ao th : Int32} {one oth isb log seq mho mih : Nat → Int32} {far : Nat → Int32} {out : Nat → Int64} (hN : 300 ≤ N) (hL : 4 * jj + 4 ≤ L) (hLL : L ≤ 2048) (hg : GO gL jj) (hI : INV n k a b d r g br so lo ends cl ea on dac rac hol one oth isb log seq mho mih) :
    fL_c5 N L xs gL jj (nI (4 * jj)) (nI n) (nI k) br so lo ends cl ea on (nI d) dac (nI r) rac (nI g) hol tc te to ac ae ao th (nI n) (nI k) so lo cl ea on (nI d) (nI r) (nI g) one oth isb log seq mho mih far out = some () := by
  obtain ⟨i1, i2, i3, i4, i5, i6, i7, i8⟩ := id hI
  have h40 : 40 ≤ N := by omega
  have g1 : ∀ {α : Type} (q : Option α), gin (nI (4 * jj) + 1) L q = q := fun q => by rw [nI_1, gin_ok (by omega) (by omega)]
  have g2 : ∀ {α : Type} (q : Option α), gin (nI (4 * jj) + 2) L q = q := fun q => by rw [show nI (4 * jj) + 2 = nI (4 * jj + 2) from nI_add (4 * jj) 2, gin_ok (by omega) (by omega)]
  have g3 : ∀ {α : Type} (q : Option α), gin (nI (4 * jj) + 3) L q = q := fun q => by rw [show nI (4 * jj) + 3 = nI (4 * jj + 3) from nI_add (4 * jj) 3, gin_ok (by omega) (by omega)]
  have g4 : nI (4 * jj) + 4 = nI (4 * (jj + 1)) := nI_add (4 * jj) 4
  unfold fL_c5
  rw [g4]
  simp only [g1, g2, g3, jn_if]
  obtain ⟨code, v, out', x, y, z, e1, e2, e3⟩ := op_reason (N := N) (out := out) (ac := ac) (ae := ae) (ao := ao) (th := th) (lg := nI d) (wr := nI r) (p0 := (xs (nI (4 * jj) + 1).toNatClampNeg)) (p1 := (xs (nI (4 * jj) + 2).toNatClampNeg)) i1 i3 i8 h40
  rw [e1, bd5_ok, e2, bd5_ok]
  unfold fX5_thrown
  rw [bd1_ok]
  exact fin_ok e3 (hg _ _ _ _ _ _ _ _ _ _ _ _ _ _ _ _ _ _ _ _ _ _ _ _ _ _ _ _ _ _ _ _ _ hI)
theorem cs_6 {N L : Nat} {xs : Nat → Int32} {gL : (Nat) → (Int32) → (Int32) → (Int32) → (Int32) → (Int32) → (Int32) → (Nat → Int32) → (Int32) → (Int32) → (Int32) → (Int32) → (Nat → Int32) → (Int32) → (Nat → Int32) → (Int32) → (Nat → Int32) → (Int32) → (Int32) → (Int32) → (Int32) → (Int32) → (Int32) → (Int32) → (Int32) → (Int32) → (Int32) → (Int32) → (Int32) → (Int32) → (Int32) → (Int32) → (Int32) → (Int32) → (Nat → Int32) → (Nat → Int32) → (Nat → Int32) → (Nat → Int32) → (Nat → Int32) → (Nat → Int32) → (Nat → Int32) → (Nat → Int32) → (Nat → Int64) → Option Unit} {jj : Nat} {n k : Nat} {a b : Nat → Nat} {d r g : Nat} {br so lo : Int32} {ends : Nat → Int32} {cl ea on : Int32} {dac rac hol : Nat → Int32} {tc te to ac ae ao th : Int32} {one oth isb log seq mho mih : Nat → Int32} {far : Nat → Int32} {out : Nat → Int64} (hN : 300 ≤ N) (hL : 4 * jj + 4 ≤ L) (hLL : L ≤ 2048) (hg : GO gL jj) (hI : INV n k a b d r g br so lo ends cl ea on dac rac hol one oth isb log seq mho mih) :
    fL_c6 N L xs gL jj (nI (4 * jj)) (nI n) (nI k) br so lo ends cl ea on (nI d) dac (nI r) rac (nI g) hol tc te to ac ae ao th (nI n) (nI k) so lo cl ea on (nI d) (nI r) (nI g) one oth isb log seq mho mih far out = some () := by
  obtain ⟨i1, i2, i3, i4, i5, i6, i7, i8⟩ := id hI
  have h40 : 40 ≤ N := by omega
  have g1 : ∀ {α : Type} (q : Option α), gin (nI (4 * jj) + 1) L q = q := fun q => by rw [nI_1, gin_ok (by omega) (by omega)]
  have g2 : ∀ {α : Type} (q : Option α), gin (nI (4 * jj) + 2) L q = q := fun q => by rw [show nI (4 * jj) + 2 = nI (4 * jj + 2) from nI_add (4 * jj) 2, gin_ok (by omega) (by omega)]
  have g3 : ∀ {α : Type} (q : Option α), gin (nI (4 * jj) + 3) L q = q := fun q => by rw [show nI (4 * jj) + 3 = nI (4 * jj + 3) from nI_add (4 * jj) 3, gin_ok (by omega) (by omega)]
  have g4 : nI (4 * jj) + 4 = nI (4 * (jj + 1)) := nI_add (4 * jj) 4
  unfold fL_c6
  rw [g4]
  obtain ⟨code, v, out', c', e', o', d', x, y, z, e1, e2, e3, e4, e5⟩ := op_takeBack (N := N) (out := out) (ac := ac) (ae := ae) (ao := ao) (th := th) (wr := nI r) i1 i3 i8 i4 i5 h40
  rw [e1, bd9_ok, e2, bd6_ok]
  unfold fX5_thrown
  rw [bd1_ok]
  exact fin_ok e3 (hg _ _ _ _ _ _ _ _ _ _ _ _ _ _ _ _ _ _ _ _ _ _ _ _ _ _ _ _ _ _ _ _ _ ⟨i1, i2, e4, by omega, fun j hj => i5 j (by omega), i6, i7, i8⟩)
theorem cs_7 {N L : Nat} {xs : Nat → Int32} {gL : (Nat) → (Int32) → (Int32) → (Int32) → (Int32) → (Int32) → (Int32) → (Nat → Int32) → (Int32) → (Int32) → (Int32) → (Int32) → (Nat → Int32) → (Int32) → (Nat → Int32) → (Int32) → (Nat → Int32) → (Int32) → (Int32) → (Int32) → (Int32) → (Int32) → (Int32) → (Int32) → (Int32) → (Int32) → (Int32) → (Int32) → (Int32) → (Int32) → (Int32) → (Int32) → (Int32) → (Int32) → (Nat → Int32) → (Nat → Int32) → (Nat → Int32) → (Nat → Int32) → (Nat → Int32) → (Nat → Int32) → (Nat → Int32) → (Nat → Int32) → (Nat → Int64) → Option Unit} {jj : Nat} {n k : Nat} {a b : Nat → Nat} {d r g : Nat} {br so lo : Int32} {ends : Nat → Int32} {cl ea on : Int32} {dac rac hol : Nat → Int32} {tc te to ac ae ao th : Int32} {one oth isb log seq mho mih : Nat → Int32} {far : Nat → Int32} {out : Nat → Int64} (hN : 300 ≤ N) (hL : 4 * jj + 4 ≤ L) (hLL : L ≤ 2048) (hg : GO gL jj) (hI : INV n k a b d r g br so lo ends cl ea on dac rac hol one oth isb log seq mho mih) :
    fL_c7 N L xs gL jj (nI (4 * jj)) (nI n) (nI k) br so lo ends cl ea on (nI d) dac (nI r) rac (nI g) hol tc te to ac ae ao th (nI n) (nI k) so lo cl ea on (nI d) (nI r) (nI g) one oth isb log seq mho mih far out = some () := by
  obtain ⟨i1, i2, i3, i4, i5, i6, i7, i8⟩ := id hI
  have h40 : 40 ≤ N := by omega
  have g1 : ∀ {α : Type} (q : Option α), gin (nI (4 * jj) + 1) L q = q := fun q => by rw [nI_1, gin_ok (by omega) (by omega)]
  have g2 : ∀ {α : Type} (q : Option α), gin (nI (4 * jj) + 2) L q = q := fun q => by rw [show nI (4 * jj) + 2 = nI (4 * jj + 2) from nI_add (4 * jj) 2, gin_ok (by omega) (by omega)]
  have g3 : ∀ {α : Type} (q : Option α), gin (nI (4 * jj) + 3) L q = q := fun q => by rw [show nI (4 * jj) + 3 = nI (4 * jj + 3) from nI_add (4 * jj) 3, gin_ok (by omega) (by omega)]
  have g4 : nI (4 * jj) + 4 = nI (4 * (jj + 1)) := nI_add (4 * jj) 4
  unfold fL_c7
  rw [g4]
  unfold fX4_log fX0_size fX5_log
  rw [bd1_ok, bd1_ok, bd2_ok, if_pos rfl]
  exact hg _ _ _ _ _ _ _ _ _ _ _ _ _ _ _ _ _ _ _ _ _ _ _ _ _ _ _ _ _ _ _ _ _ hI
theorem cs_8 {N L : Nat} {xs : Nat → Int32} {gL : (Nat) → (Int32) → (Int32) → (Int32) → (Int32) → (Int32) → (Int32) → (Nat → Int32) → (Int32) → (Int32) → (Int32) → (Int32) → (Nat → Int32) → (Int32) → (Nat → Int32) → (Int32) → (Nat → Int32) → (Int32) → (Int32) → (Int32) → (Int32) → (Int32) → (Int32) → (Int32) → (Int32) → (Int32) → (Int32) → (Int32) → (Int32) → (Int32) → (Int32) → (Int32) → (Int32) → (Int32) → (Nat → Int32) → (Nat → Int32) → (Nat → Int32) → (Nat → Int32) → (Nat → Int32) → (Nat → Int32) → (Nat → Int32) → (Nat → Int32) → (Nat → Int64) → Option Unit} {jj : Nat} {n k : Nat} {a b : Nat → Nat} {d r g : Nat} {br so lo : Int32} {ends : Nat → Int32} {cl ea on : Int32} {dac rac hol : Nat → Int32} {tc te to ac ae ao th : Int32} {one oth isb log seq mho mih : Nat → Int32} {far : Nat → Int32} {out : Nat → Int64} (hN : 300 ≤ N) (hL : 4 * jj + 4 ≤ L) (hLL : L ≤ 2048) (hg : GO gL jj) (hI : INV n k a b d r g br so lo ends cl ea on dac rac hol one oth isb log seq mho mih) :
    fL_c8 N L xs gL jj (nI (4 * jj)) (nI n) (nI k) br so lo ends cl ea on (nI d) dac (nI r) rac (nI g) hol tc te to ac ae ao th (nI n) (nI k) so lo cl ea on (nI d) (nI r) (nI g) one oth isb log seq mho mih far out = some () := by
  obtain ⟨i1, i2, i3, i4, i5, i6, i7, i8⟩ := id hI
  have h40 : 40 ≤ N := by omega
  have g1 : ∀ {α : Type} (q : Option α), gin (nI (4 * jj) + 1) L q = q := fun q => by rw [nI_1, gin_ok (by omega) (by omega)]
  have g2 : ∀ {α : Type} (q : Option α), gin (nI (4 * jj) + 2) L q = q := fun q => by rw [show nI (4 * jj) + 2 = nI (4 * jj + 2) from nI_add (4 * jj) 2, gin_ok (by omega) (by omega)]
  have g3 : ∀ {α : Type} (q : Option α), gin (nI (4 * jj) + 3) L q = q := fun q => by rw [show nI (4 * jj) + 3 = nI (4 * jj + 3) from nI_add (4 * jj) 3, gin_ok (by omega) (by omega)]
  have g4 : nI (4 * jj) + 4 = nI (4 * (jj + 1)) := nI_add (4 * jj) 4
  unfold fL_c8
  rw [g4]
  simp only [g1, g2, g3, jn_if]
  obtain ⟨code, v, out', e1, e2, e3⟩ := op_logged (N := N) (out := out) (th := th) (nd := nI n) (sw := nI k) (so := so) (lo := lo) (cl := cl) (ea := ea) (on := on) (wr := nI r) (pe := nI g) (p := (xs (nI (4 * jj) + 1).toNatClampNeg)) i4 i5
  rw [e1, bd2_ok, e2, bd2_ok]
  unfold fX5_thrown
  rw [bd1_ok]
  exact fin_ok e3 (hg _ _ _ _ _ _ _ _ _ _ _ _ _ _ _ _ _ _ _ _ _ _ _ _ _ _ _ _ _ _ _ _ _ hI)
theorem cs_9 {N L : Nat} {xs : Nat → Int32} {gL : (Nat) → (Int32) → (Int32) → (Int32) → (Int32) → (Int32) → (Int32) → (Nat → Int32) → (Int32) → (Int32) → (Int32) → (Int32) → (Nat → Int32) → (Int32) → (Nat → Int32) → (Int32) → (Nat → Int32) → (Int32) → (Int32) → (Int32) → (Int32) → (Int32) → (Int32) → (Int32) → (Int32) → (Int32) → (Int32) → (Int32) → (Int32) → (Int32) → (Int32) → (Int32) → (Int32) → (Int32) → (Nat → Int32) → (Nat → Int32) → (Nat → Int32) → (Nat → Int32) → (Nat → Int32) → (Nat → Int32) → (Nat → Int32) → (Nat → Int32) → (Nat → Int64) → Option Unit} {jj : Nat} {n k : Nat} {a b : Nat → Nat} {d r g : Nat} {br so lo : Int32} {ends : Nat → Int32} {cl ea on : Int32} {dac rac hol : Nat → Int32} {tc te to ac ae ao th : Int32} {one oth isb log seq mho mih : Nat → Int32} {far : Nat → Int32} {out : Nat → Int64} (hN : 300 ≤ N) (hL : 4 * jj + 4 ≤ L) (hLL : L ≤ 2048) (hg : GO gL jj) (hI : INV n k a b d r g br so lo ends cl ea on dac rac hol one oth isb log seq mho mih) :
    fL_c9 N L xs gL jj (nI (4 * jj)) (nI n) (nI k) br so lo ends cl ea on (nI d) dac (nI r) rac (nI g) hol tc te to ac ae ao th (nI n) (nI k) so lo cl ea on (nI d) (nI r) (nI g) one oth isb log seq mho mih far out = some () := by
  obtain ⟨i1, i2, i3, i4, i5, i6, i7, i8⟩ := id hI
  have h40 : 40 ≤ N := by omega
  have g1 : ∀ {α : Type} (q : Option α), gin (nI (4 * jj) + 1) L q = q := fun q => by rw [nI_1, gin_ok (by omega) (by omega)]
  have g2 : ∀ {α : Type} (q : Option α), gin (nI (4 * jj) + 2) L q = q := fun q => by rw [show nI (4 * jj) + 2 = nI (4 * jj + 2) from nI_add (4 * jj) 2, gin_ok (by omega) (by omega)]
  have g3 : ∀ {α : Type} (q : Option α), gin (nI (4 * jj) + 3) L q = q := fun q => by rw [show nI (4 * jj) + 3 = nI (4 * jj + 3) from nI_add (4 * jj) 3, gin_ok (by omega) (by omega)]
  have g4 : nI (4 * jj) + 4 = nI (4 * (jj + 1)) := nI_add (4 * jj) 4
  unfold fL_c9
  rw [g4]
  simp only [g1, g2, g3, jn_if]
  obtain ⟨code, v, out', e1, e2, e3⟩ := op_times (N := N) (out := out) (br := br) (so := so) (lo := lo) (th := th) (so' := so) (lo' := lo) (cl := cl) (ea := ea) (on := on) (wr := nI r) (pe := nI g) (p0 := (xs (nI (4 * jj) + 1).toNatClampNeg)) (p1 := (xs (nI (4 * jj) + 2).toNatClampNeg)) i1.1 i4 i5 hN
  rw [e1, bd2_ok, e2, bd2_ok]
  unfold fX5_thrown
  rw [bd1_ok]
  exact fin_ok e3 (hg _ _ _ _ _ _ _ _ _ _ _ _ _ _ _ _ _ _ _ _ _ _ _ _ _ _ _ _ _ _ _ _ _ hI)
theorem cs_10 {N L : Nat} {xs : Nat → Int32} {gL : (Nat) → (Int32) → (Int32) → (Int32) → (Int32) → (Int32) → (Int32) → (Nat → Int32) → (Int32) → (Int32) → (Int32) → (Int32) → (Nat → Int32) → (Int32) → (Nat → Int32) → (Int32) → (Nat → Int32) → (Int32) → (Int32) → (Int32) → (Int32) → (Int32) → (Int32) → (Int32) → (Int32) → (Int32) → (Int32) → (Int32) → (Int32) → (Int32) → (Int32) → (Int32) → (Int32) → (Int32) → (Nat → Int32) → (Nat → Int32) → (Nat → Int32) → (Nat → Int32) → (Nat → Int32) → (Nat → Int32) → (Nat → Int32) → (Nat → Int32) → (Nat → Int64) → Option Unit} {jj : Nat} {n k : Nat} {a b : Nat → Nat} {d r g : Nat} {br so lo : Int32} {ends : Nat → Int32} {cl ea on : Int32} {dac rac hol : Nat → Int32} {tc te to ac ae ao th : Int32} {one oth isb log seq mho mih : Nat → Int32} {far : Nat → Int32} {out : Nat → Int64} (hN : 300 ≤ N) (hL : 4 * jj + 4 ≤ L) (hLL : L ≤ 2048) (hg : GO gL jj) (hI : INV n k a b d r g br so lo ends cl ea on dac rac hol one oth isb log seq mho mih) :
    fL_c10 N L xs gL jj (nI (4 * jj)) (nI n) (nI k) br so lo ends cl ea on (nI d) dac (nI r) rac (nI g) hol tc te to ac ae ao th (nI n) (nI k) so lo cl ea on (nI d) (nI r) (nI g) one oth isb log seq mho mih far out = some () := by
  obtain ⟨i1, i2, i3, i4, i5, i6, i7, i8⟩ := id hI
  have h40 : 40 ≤ N := by omega
  have g1 : ∀ {α : Type} (q : Option α), gin (nI (4 * jj) + 1) L q = q := fun q => by rw [nI_1, gin_ok (by omega) (by omega)]
  have g2 : ∀ {α : Type} (q : Option α), gin (nI (4 * jj) + 2) L q = q := fun q => by rw [show nI (4 * jj) + 2 = nI (4 * jj + 2) from nI_add (4 * jj) 2, gin_ok (by omega) (by omega)]
  have g3 : ∀ {α : Type} (q : Option α), gin (nI (4 * jj) + 3) L q = q := fun q => by rw [show nI (4 * jj) + 3 = nI (4 * jj + 3) from nI_add (4 * jj) 3, gin_ok (by omega) (by omega)]
  have g4 : nI (4 * jj) + 4 = nI (4 * (jj + 1)) := nI_add (4 * jj) 4
  unfold fL_c10
  rw [g4]
  simp only [g1, g2, g3, jn_if]
  obtain ⟨code, v, out', r', rac', seq', e1, e2, e3, e4, e5⟩ := op_write (N := N) (out := out) (br := br) (so := so) (lo := lo) (th := th) (so' := so) (lo' := lo) (cl := cl) (ea := ea) (on := on) (lg := nI d) (pe := nI g) (p0 := (xs (nI (4 * jj) + 1).toNatClampNeg)) (p1 := (xs (nI (4 * jj) + 2).toNatClampNeg)) i1.1 i6 i7 h40
  rw [e1, bd4_ok, e2, bd4_ok]
  unfold fX5_thrown
  rw [bd1_ok]
  exact fin_ok e3 (hg _ _ _ _ _ _ _ _ _ _ _ _ _ _ _ _ _ _ _ _ _ _ _ _ _ _ _ _ _ _ _ _ _ ⟨i1, i2, i3, i4, i5, e4, e5, i8⟩)
theorem cs_11 {N L : Nat} {xs : Nat → Int32} {gL : (Nat) → (Int32) → (Int32) → (Int32) → (Int32) → (Int32) → (Int32) → (Nat → Int32) → (Int32) → (Int32) → (Int32) → (Int32) → (Nat → Int32) → (Int32) → (Nat → Int32) → (Int32) → (Nat → Int32) → (Int32) → (Int32) → (Int32) → (Int32) → (Int32) → (Int32) → (Int32) → (Int32) → (Int32) → (Int32) → (Int32) → (Int32) → (Int32) → (Int32) → (Int32) → (Int32) → (Int32) → (Nat → Int32) → (Nat → Int32) → (Nat → Int32) → (Nat → Int32) → (Nat → Int32) → (Nat → Int32) → (Nat → Int32) → (Nat → Int32) → (Nat → Int64) → Option Unit} {jj : Nat} {n k : Nat} {a b : Nat → Nat} {d r g : Nat} {br so lo : Int32} {ends : Nat → Int32} {cl ea on : Int32} {dac rac hol : Nat → Int32} {tc te to ac ae ao th : Int32} {one oth isb log seq mho mih : Nat → Int32} {far : Nat → Int32} {out : Nat → Int64} (hN : 300 ≤ N) (hL : 4 * jj + 4 ≤ L) (hLL : L ≤ 2048) (hg : GO gL jj) (hI : INV n k a b d r g br so lo ends cl ea on dac rac hol one oth isb log seq mho mih) :
    fL_c11 N L xs gL jj (nI (4 * jj)) (nI n) (nI k) br so lo ends cl ea on (nI d) dac (nI r) rac (nI g) hol tc te to ac ae ao th (nI n) (nI k) so lo cl ea on (nI d) (nI r) (nI g) one oth isb log seq mho mih far out = some () := by
  obtain ⟨i1, i2, i3, i4, i5, i6, i7, i8⟩ := id hI
  have h40 : 40 ≤ N := by omega
  have g1 : ∀ {α : Type} (q : Option α), gin (nI (4 * jj) + 1) L q = q := fun q => by rw [nI_1, gin_ok (by omega) (by omega)]
  have g2 : ∀ {α : Type} (q : Option α), gin (nI (4 * jj) + 2) L q = q := fun q => by rw [show nI (4 * jj) + 2 = nI (4 * jj + 2) from nI_add (4 * jj) 2, gin_ok (by omega) (by omega)]
  have g3 : ∀ {α : Type} (q : Option α), gin (nI (4 * jj) + 3) L q = q := fun q => by rw [show nI (4 * jj) + 3 = nI (4 * jj + 3) from nI_add (4 * jj) 3, gin_ok (by omega) (by omega)]
  have g4 : nI (4 * jj) + 4 = nI (4 * (jj + 1)) := nI_add (4 * jj) 4
  unfold fL_c11
  rw [g4]
  obtain ⟨rac', e1, e2⟩ := op_erase (N := N) (rac := rac) (th := th) (nd := nI n) (sw := nI k) (so := so) (lo := lo) (cl := cl) (ea := ea) (on := on) (lg := nI d) (pe := nI g) i6 h40
  rw [e1, bd3_ok, e2, bd3_ok, if_pos rfl]
  exact hg _ _ _ _ _ _ _ _ _ _ _ _ _ _ _ _ _ _ _ _ _ _ _ _ _ _ _ _ _ _ _ _ _ ⟨i1, i2, i3, i4, i5, Nat.zero_le _, fun j hj => absurd hj (Nat.not_lt_zero j), i8⟩
theorem cs_12 {N L : Nat} {xs : Nat → Int32} {gL : (Nat) → (Int32) → (Int32) → (Int32) → (Int32) → (Int32) → (Int32) → (Nat → Int32) → (Int32) → (Int32) → (Int32) → (Int32) → (Nat → Int32) → (Int32) → (Nat → Int32) → (Int32) → (Nat → Int32) → (Int32) → (Int32) → (Int32) → (Int32) → (Int32) → (Int32) → (Int32) → (Int32) → (Int32) → (Int32) → (Int32) → (Int32) → (Int32) → (Int32) → (Int32) → (Int32) → (Int32) → (Nat → Int32) → (Nat → Int32) → (Nat → Int32) → (Nat → Int32) → (Nat → Int32) → (Nat → Int32) → (Nat → Int32) → (Nat → Int32) → (Nat → Int64) → Option Unit} {jj : Nat} {n k : Nat} {a b : Nat → Nat} {d r g : Nat} {br so lo : Int32} {ends : Nat → Int32} {cl ea on : Int32} {dac rac hol : Nat → Int32} {tc te to ac ae ao th : Int32} {one oth isb log seq mho mih : Nat → Int32} {far : Nat → Int32} {out : Nat → Int64} (hN : 300 ≤ N) (hL : 4 * jj + 4 ≤ L) (hLL : L ≤ 2048) (hg : GO gL jj) (hI : INV n k a b d r g br so lo ends cl ea on dac rac hol one oth isb log seq mho mih) :
    fL_c12 N L xs gL jj (nI (4 * jj)) (nI n) (nI k) br so lo ends cl ea on (nI d) dac (nI r) rac (nI g) hol tc te to ac ae ao th (nI n) (nI k) so lo cl ea on (nI d) (nI r) (nI g) one oth isb log seq mho mih far out = some () := by
  obtain ⟨i1, i2, i3, i4, i5, i6, i7, i8⟩ := id hI
  have h40 : 40 ≤ N := by omega
  have g1 : ∀ {α : Type} (q : Option α), gin (nI (4 * jj) + 1) L q = q := fun q => by rw [nI_1, gin_ok (by omega) (by omega)]
  have g2 : ∀ {α : Type} (q : Option α), gin (nI (4 * jj) + 2) L q = q := fun q => by rw [show nI (4 * jj) + 2 = nI (4 * jj + 2) from nI_add (4 * jj) 2, gin_ok (by omega) (by omega)]
  have g3 : ∀ {α : Type} (q : Option α), gin (nI (4 * jj) + 3) L q = q := fun q => by rw [show nI (4 * jj) + 3 = nI (4 * jj + 3) from nI_add (4 * jj) 3, gin_ok (by omega) (by omega)]
  have g4 : nI (4 * jj) + 4 = nI (4 * (jj + 1)) := nI_add (4 * jj) 4
  unfold fL_c12
  rw [g4]
  obtain ⟨v, t1, t2, t3, t4, t5, t6, e1, e2⟩ := op_check (N := N) (tc := tc) (te := te) (to := to) (ac := ac) (ae := ae) (ao := ao) (th := th) (lg := nI d) i1 i3 i8 i6 i7 hN
  rw [e1, bd7_ok, e2, bd5_ok, if_pos rfl]
  exact hg _ _ _ _ _ _ _ _ _ _ _ _ _ _ _ _ _ _ _ _ _ _ _ _ _ _ _ _ _ _ _ _ _ hI
theorem cs_13 {N L : Nat} {xs : Nat → Int32} {gL : (Nat) → (Int32) → (Int32) → (Int32) → (Int32) → (Int32) → (Int32) → (Nat → Int32) → (Int32) → (Int32) → (Int32) → (Int32) → (Nat → Int32) → (Int32) → (Nat → Int32) → (Int32) → (Nat → Int32) → (Int32) → (Int32) → (Int32) → (Int32) → (Int32) → (Int32) → (Int32) → (Int32) → (Int32) → (Int32) → (Int32) → (Int32) → (Int32) → (Int32) → (Int32) → (Int32) → (Int32) → (Nat → Int32) → (Nat → Int32) → (Nat → Int32) → (Nat → Int32) → (Nat → Int32) → (Nat → Int32) → (Nat → Int32) → (Nat → Int32) → (Nat → Int64) → Option Unit} {jj : Nat} {n k : Nat} {a b : Nat → Nat} {d r g : Nat} {br so lo : Int32} {ends : Nat → Int32} {cl ea on : Int32} {dac rac hol : Nat → Int32} {tc te to ac ae ao th : Int32} {one oth isb log seq mho mih : Nat → Int32} {far : Nat → Int32} {out : Nat → Int64} (hN : 300 ≤ N) (hL : 4 * jj + 4 ≤ L) (hLL : L ≤ 2048) (hg : GO gL jj) (hI : INV n k a b d r g br so lo ends cl ea on dac rac hol one oth isb log seq mho mih) :
    fL_c13 N L xs gL jj (nI (4 * jj)) (nI n) (nI k) br so lo ends cl ea on (nI d) dac (nI r) rac (nI g) hol tc te to ac ae ao th (nI n) (nI k) so lo cl ea on (nI d) (nI r) (nI g) one oth isb log seq mho mih far out = some () := by
  obtain ⟨i1, i2, i3, i4, i5, i6, i7, i8⟩ := id hI
  have h40 : 40 ≤ N := by omega
  have g1 : ∀ {α : Type} (q : Option α), gin (nI (4 * jj) + 1) L q = q := fun q => by rw [nI_1, gin_ok (by omega) (by omega)]
  have g2 : ∀ {α : Type} (q : Option α), gin (nI (4 * jj) + 2) L q = q := fun q => by rw [show nI (4 * jj) + 2 = nI (4 * jj + 2) from nI_add (4 * jj) 2, gin_ok (by omega) (by omega)]
  have g3 : ∀ {α : Type} (q : Option α), gin (nI (4 * jj) + 3) L q = q := fun q => by rw [show nI (4 * jj) + 3 = nI (4 * jj + 3) from nI_add (4 * jj) 3, gin_ok (by omega) (by omega)]
  have g4 : nI (4 * jj) + 4 = nI (4 * (jj + 1)) := nI_add (4 * jj) 4
  unfold fL_c13
  rw [g4]
  simp only [g1, g2, g3, jn_if]
  obtain ⟨code, v, out', c', e', o', d', dac', log', r', rac', seq', x, y, z, e1, e2, e3, e4, e5, e6, e7, e8⟩ := op_carryOut (N := N) (out := out) (ac := ac) (ae := ae) (ao := ao) (th := th) (p := (xs (nI (4 * jj) + 1).toNatClampNeg)) i1 i3 i8 i4 i5 i6 i7 hN
  rw [e1, bd12_ok, e2, bd9_ok]
  unfold fX5_thrown
  rw [bd1_ok]
  exact fin_ok e3 (hg _ _ _ _ _ _ _ _ _ _ _ _ _ _ _ _ _ _ _ _ _ _ _ _ _ _ _ _ _ _ _ _ _ ⟨i1, i2, e4, e5, e6, e7, e8, i8⟩)
theorem cs_14 {N L : Nat} {xs : Nat → Int32} {gL : (Nat) → (Int32) → (Int32) → (Int32) → (Int32) → (Int32) → (Int32) → (Nat → Int32) → (Int32) → (Int32) → (Int32) → (Int32) → (Nat → Int32) → (Int32) → (Nat → Int32) → (Int32) → (Nat → Int32) → (Int32) → (Int32) → (Int32) → (Int32) → (Int32) → (Int32) → (Int32) → (Int32) → (Int32) → (Int32) → (Int32) → (Int32) → (Int32) → (Int32) → (Int32) → (Int32) → (Int32) → (Nat → Int32) → (Nat → Int32) → (Nat → Int32) → (Nat → Int32) → (Nat → Int32) → (Nat → Int32) → (Nat → Int32) → (Nat → Int32) → (Nat → Int64) → Option Unit} {jj : Nat} {n k : Nat} {a b : Nat → Nat} {d r g : Nat} {br so lo : Int32} {ends : Nat → Int32} {cl ea on : Int32} {dac rac hol : Nat → Int32} {tc te to ac ae ao th : Int32} {one oth isb log seq mho mih : Nat → Int32} {far : Nat → Int32} {out : Nat → Int64} (hN : 300 ≤ N) (hL : 4 * jj + 4 ≤ L) (hLL : L ≤ 2048) (hg : GO gL jj) (hI : INV n k a b d r g br so lo ends cl ea on dac rac hol one oth isb log seq mho mih) :
    fL_c14 N L xs gL jj (nI (4 * jj)) (nI n) (nI k) br so lo ends cl ea on (nI d) dac (nI r) rac (nI g) hol tc te to ac ae ao th (nI n) (nI k) so lo cl ea on (nI d) (nI r) (nI g) one oth isb log seq mho mih far out = some () := by
  obtain ⟨i1, i2, i3, i4, i5, i6, i7, i8⟩ := id hI
  have h40 : 40 ≤ N := by omega
  have g1 : ∀ {α : Type} (q : Option α), gin (nI (4 * jj) + 1) L q = q := fun q => by rw [nI_1, gin_ok (by omega) (by omega)]
  have g2 : ∀ {α : Type} (q : Option α), gin (nI (4 * jj) + 2) L q = q := fun q => by rw [show nI (4 * jj) + 2 = nI (4 * jj + 2) from nI_add (4 * jj) 2, gin_ok (by omega) (by omega)]
  have g3 : ∀ {α : Type} (q : Option α), gin (nI (4 * jj) + 3) L q = q := fun q => by rw [show nI (4 * jj) + 3 = nI (4 * jj + 3) from nI_add (4 * jj) 3, gin_ok (by omega) (by omega)]
  have g4 : nI (4 * jj) + 4 = nI (4 * (jj + 1)) := nI_add (4 * jj) 4
  unfold fL_c14
  rw [g4]
  obtain ⟨r', rac', seq', e1, e2, e3, e4⟩ := op_writeBack (N := N) (rac := rac) (seq := seq) (th := th) (nd := nI n) (sw := nI k) (so := so) (lo := lo) (cl := cl) (ea := ea) (on := on) (pe := nI g) i1.1 i4 i6 i5 h40
  rw [e1, bd3_ok, e2, bd4_ok, if_pos rfl]
  exact hg _ _ _ _ _ _ _ _ _ _ _ _ _ _ _ _ _ _ _ _ _ _ _ _ _ _ _ _ _ _ _ _ _ ⟨i1, i2, i3, i4, i5, e3, e4, i8⟩
theorem cs_15 {N L : Nat} {xs : Nat → Int32} {gL : (Nat) → (Int32) → (Int32) → (Int32) → (Int32) → (Int32) → (Int32) → (Nat → Int32) → (Int32) → (Int32) → (Int32) → (Int32) → (Nat → Int32) → (Int32) → (Nat → Int32) → (Int32) → (Nat → Int32) → (Int32) → (Int32) → (Int32) → (Int32) → (Int32) → (Int32) → (Int32) → (Int32) → (Int32) → (Int32) → (Int32) → (Int32) → (Int32) → (Int32) → (Int32) → (Int32) → (Int32) → (Nat → Int32) → (Nat → Int32) → (Nat → Int32) → (Nat → Int32) → (Nat → Int32) → (Nat → Int32) → (Nat → Int32) → (Nat → Int32) → (Nat → Int64) → Option Unit} {jj : Nat} {n k : Nat} {a b : Nat → Nat} {d r g : Nat} {br so lo : Int32} {ends : Nat → Int32} {cl ea on : Int32} {dac rac hol : Nat → Int32} {tc te to ac ae ao th : Int32} {one oth isb log seq mho mih : Nat → Int32} {far : Nat → Int32} {out : Nat → Int64} (hN : 300 ≤ N) (hL : 4 * jj + 4 ≤ L) (hLL : L ≤ 2048) (hg : GO gL jj) (hI : INV n k a b d r g br so lo ends cl ea on dac rac hol one oth isb log seq mho mih) :
    fL_c15 N L xs gL jj (nI (4 * jj)) (nI n) (nI k) br so lo ends cl ea on (nI d) dac (nI r) rac (nI g) hol tc te to ac ae ao th (nI n) (nI k) so lo cl ea on (nI d) (nI r) (nI g) one oth isb log seq mho mih far out = some () := by
  obtain ⟨i1, i2, i3, i4, i5, i6, i7, i8⟩ := id hI
  have h40 : 40 ≤ N := by omega
  have g1 : ∀ {α : Type} (q : Option α), gin (nI (4 * jj) + 1) L q = q := fun q => by rw [nI_1, gin_ok (by omega) (by omega)]
  have g2 : ∀ {α : Type} (q : Option α), gin (nI (4 * jj) + 2) L q = q := fun q => by rw [show nI (4 * jj) + 2 = nI (4 * jj + 2) from nI_add (4 * jj) 2, gin_ok (by omega) (by omega)]
  have g3 : ∀ {α : Type} (q : Option α), gin (nI (4 * jj) + 3) L q = q := fun q => by rw [show nI (4 * jj) + 3 = nI (4 * jj + 3) from nI_add (4 * jj) 3, gin_ok (by omega) (by omega)]
  have g4 : nI (4 * jj) + 4 = nI (4 * (jj + 1)) := nI_add (4 * jj) 4
  unfold fL_c15
  rw [g4]
  simp only [g1, g2, g3, jn_if]
  obtain ⟨code, v, out', g', hol', mho', mih', e1, e2, e3, e4⟩ := op_permit (N := N) (out := out) (th := th) (lg := nI d) (wr := nI r) (p := (xs (nI (4 * jj) + 1).toNatClampNeg)) i1 i3 i8 h40
  rw [e1, bd4_ok, e2, bd5_ok]
  unfold fX5_thrown
  rw [bd1_ok]
  exact fin_ok e3 (hg _ _ _ _ _ _ _ _ _ _ _ _ _ _ _ _ _ _ _ _ _ _ _ _ _ _ _ _ _ _ _ _ _ ⟨i1, i2, i3, i4, i5, i6, i7, e4⟩)
theorem cs_16 {N L : Nat} {xs : Nat → Int32} {gL : (Nat) → (Int32) → (Int32) → (Int32) → (Int32) → (Int32) → (Int32) → (Nat → Int32) → (Int32) → (Int32) → (Int32) → (Int32) → (Nat → Int32) → (Int32) → (Nat → Int32) → (Int32) → (Nat → Int32) → (Int32) → (Int32) → (Int32) → (Int32) → (Int32) → (Int32) → (Int32) → (Int32) → (Int32) → (Int32) → (Int32) → (Int32) → (Int32) → (Int32) → (Int32) → (Int32) → (Int32) → (Nat → Int32) → (Nat → Int32) → (Nat → Int32) → (Nat → Int32) → (Nat → Int32) → (Nat → Int32) → (Nat → Int32) → (Nat → Int32) → (Nat → Int64) → Option Unit} {jj : Nat} {n k : Nat} {a b : Nat → Nat} {d r g : Nat} {br so lo : Int32} {ends : Nat → Int32} {cl ea on : Int32} {dac rac hol : Nat → Int32} {tc te to ac ae ao th : Int32} {one oth isb log seq mho mih : Nat → Int32} {far : Nat → Int32} {out : Nat → Int64} (hN : 300 ≤ N) (hL : 4 * jj + 4 ≤ L) (hLL : L ≤ 2048) (hg : GO gL jj) (hI : INV n k a b d r g br so lo ends cl ea on dac rac hol one oth isb log seq mho mih) :
    fL_c16 N L xs gL jj (nI (4 * jj)) (nI n) (nI k) br so lo ends cl ea on (nI d) dac (nI r) rac (nI g) hol tc te to ac ae ao th (nI n) (nI k) so lo cl ea on (nI d) (nI r) (nI g) one oth isb log seq mho mih far out = some () := by
  obtain ⟨i1, i2, i3, i4, i5, i6, i7, i8⟩ := id hI
  have h40 : 40 ≤ N := by omega
  have g1 : ∀ {α : Type} (q : Option α), gin (nI (4 * jj) + 1) L q = q := fun q => by rw [nI_1, gin_ok (by omega) (by omega)]
  have g2 : ∀ {α : Type} (q : Option α), gin (nI (4 * jj) + 2) L q = q := fun q => by rw [show nI (4 * jj) + 2 = nI (4 * jj + 2) from nI_add (4 * jj) 2, gin_ok (by omega) (by omega)]
  have g3 : ∀ {α : Type} (q : Option α), gin (nI (4 * jj) + 3) L q = q := fun q => by rw [show nI (4 * jj) + 3 = nI (4 * jj + 3) from nI_add (4 * jj) 3, gin_ok (by omega) (by omega)]
  have g4 : nI (4 * jj) + 4 = nI (4 * (jj + 1)) := nI_add (4 * jj) 4
  unfold fL_c16
  rw [g4]
  simp only [g1, g2, g3, jn_if]
  obtain ⟨code, v, out', hol', mih', e1, e2, e3, e4⟩ := op_handBack (N := N) (out := out) (th := th) (nd := nI n) (sw := nI k) (so := so) (lo := lo) (cl := cl) (ea := ea) (on := on) (lg := nI d) (wr := nI r) (p := (xs (nI (4 * jj) + 1).toNatClampNeg)) i8 h40
  rw [e1, bd3_ok, e2, bd3_ok]
  unfold fX5_thrown
  rw [bd1_ok]
  exact fin_ok e3 (hg _ _ _ _ _ _ _ _ _ _ _ _ _ _ _ _ _ _ _ _ _ _ _ _ _ _ _ _ _ _ _ _ _ ⟨i1, i2, i3, i4, i5, i6, i7, e4⟩)
theorem cs_17 {N L : Nat} {xs : Nat → Int32} {gL : (Nat) → (Int32) → (Int32) → (Int32) → (Int32) → (Int32) → (Int32) → (Nat → Int32) → (Int32) → (Int32) → (Int32) → (Int32) → (Nat → Int32) → (Int32) → (Nat → Int32) → (Int32) → (Nat → Int32) → (Int32) → (Int32) → (Int32) → (Int32) → (Int32) → (Int32) → (Int32) → (Int32) → (Int32) → (Int32) → (Int32) → (Int32) → (Int32) → (Int32) → (Int32) → (Int32) → (Int32) → (Nat → Int32) → (Nat → Int32) → (Nat → Int32) → (Nat → Int32) → (Nat → Int32) → (Nat → Int32) → (Nat → Int32) → (Nat → Int32) → (Nat → Int64) → Option Unit} {jj : Nat} {n k : Nat} {a b : Nat → Nat} {d r g : Nat} {br so lo : Int32} {ends : Nat → Int32} {cl ea on : Int32} {dac rac hol : Nat → Int32} {tc te to ac ae ao th : Int32} {one oth isb log seq mho mih : Nat → Int32} {far : Nat → Int32} {out : Nat → Int64} (hN : 300 ≤ N) (hL : 4 * jj + 4 ≤ L) (hLL : L ≤ 2048) (hg : GO gL jj) (hI : INV n k a b d r g br so lo ends cl ea on dac rac hol one oth isb log seq mho mih) :
    fL_c17 N L xs gL jj (nI (4 * jj)) (nI n) (nI k) br so lo ends cl ea on (nI d) dac (nI r) rac (nI g) hol tc te to ac ae ao th (nI n) (nI k) so lo cl ea on (nI d) (nI r) (nI g) one oth isb log seq mho mih far out = some () := by
  obtain ⟨i1, i2, i3, i4, i5, i6, i7, i8⟩ := id hI
  have h40 : 40 ≤ N := by omega
  have g1 : ∀ {α : Type} (q : Option α), gin (nI (4 * jj) + 1) L q = q := fun q => by rw [nI_1, gin_ok (by omega) (by omega)]
  have g2 : ∀ {α : Type} (q : Option α), gin (nI (4 * jj) + 2) L q = q := fun q => by rw [show nI (4 * jj) + 2 = nI (4 * jj + 2) from nI_add (4 * jj) 2, gin_ok (by omega) (by omega)]
  have g3 : ∀ {α : Type} (q : Option α), gin (nI (4 * jj) + 3) L q = q := fun q => by rw [show nI (4 * jj) + 3 = nI (4 * jj + 3) from nI_add (4 * jj) 3, gin_ok (by omega) (by omega)]
  have g4 : nI (4 * jj) + 4 = nI (4 * (jj + 1)) := nI_add (4 * jj) 4
  unfold fL_c17
  rw [g4]
  unfold fX4_held fX5_held
  rw [c_held i8.1 h40, m_held i8.1 h40, i8.h, bd1_ok, bd1_ok, bd1_ok, bd2_ok, if_pos rfl]
  exact hg _ _ _ _ _ _ _ _ _ _ _ _ _ _ _ _ _ _ _ _ _ _ _ _ _ _ _ _ _ _ _ _ _ hI
theorem cs_18 {N L : Nat} {xs : Nat → Int32} {gL : (Nat) → (Int32) → (Int32) → (Int32) → (Int32) → (Int32) → (Int32) → (Nat → Int32) → (Int32) → (Int32) → (Int32) → (Int32) → (Nat → Int32) → (Int32) → (Nat → Int32) → (Int32) → (Nat → Int32) → (Int32) → (Int32) → (Int32) → (Int32) → (Int32) → (Int32) → (Int32) → (Int32) → (Int32) → (Int32) → (Int32) → (Int32) → (Int32) → (Int32) → (Int32) → (Int32) → (Int32) → (Nat → Int32) → (Nat → Int32) → (Nat → Int32) → (Nat → Int32) → (Nat → Int32) → (Nat → Int32) → (Nat → Int32) → (Nat → Int32) → (Nat → Int64) → Option Unit} {jj : Nat} {n k : Nat} {a b : Nat → Nat} {d r g : Nat} {br so lo : Int32} {ends : Nat → Int32} {cl ea on : Int32} {dac rac hol : Nat → Int32} {tc te to ac ae ao th : Int32} {one oth isb log seq mho mih : Nat → Int32} {far : Nat → Int32} {out : Nat → Int64} (hN : 300 ≤ N) (hL : 4 * jj + 4 ≤ L) (hLL : L ≤ 2048) (hg : GO gL jj) (hI : INV n k a b d r g br so lo ends cl ea on dac rac hol one oth isb log seq mho mih) :
    fL_c18 N L xs gL jj (nI (4 * jj)) (nI n) (nI k) br so lo ends cl ea on (nI d) dac (nI r) rac (nI g) hol tc te to ac ae ao th (nI n) (nI k) so lo cl ea on (nI d) (nI r) (nI g) one oth isb log seq mho mih far out = some () := by
  obtain ⟨i1, i2, i3, i4, i5, i6, i7, i8⟩ := id hI
  have h40 : 40 ≤ N := by omega
  have g1 : ∀ {α : Type} (q : Option α), gin (nI (4 * jj) + 1) L q = q := fun q => by rw [nI_1, gin_ok (by omega) (by omega)]
  have g2 : ∀ {α : Type} (q : Option α), gin (nI (4 * jj) + 2) L q = q := fun q => by rw [show nI (4 * jj) + 2 = nI (4 * jj + 2) from nI_add (4 * jj) 2, gin_ok (by omega) (by omega)]
  have g3 : ∀ {α : Type} (q : Option α), gin (nI (4 * jj) + 3) L q = q := fun q => by rw [show nI (4 * jj) + 3 = nI (4 * jj + 3) from nI_add (4 * jj) 3, gin_ok (by omega) (by omega)]
  have g4 : nI (4 * jj) + 4 = nI (4 * (jj + 1)) := nI_add (4 * jj) 4
  unfold fL_c18
  rw [g4]
  simp only [g1, g2, g3, jn_if]
  obtain ⟨code, v, out', e1, e2, e3⟩ := op_isClosed (N := N) (c := cl) (out := out) (nc := nI n) (br := br) (so := so) (lo := lo) (e := ea) (o := on) (th := th) (nd := nI n) (so' := so) (lo' := lo) (ea := ea) (on := on) (lg := nI d) (wr := nI r) (pe := nI g) (p := (xs (nI (4 * jj) + 1).toNatClampNeg)) i1.1.2.1
  rw [e1, bd2_ok, e2, bd2_ok]
  unfold fX5_thrown
  rw [bd1_ok, if_pos rfl]
  by_cases q : code = 0
  · rw [if_pos q]
    by_cases q2 : v = 0
    · rw [if_pos q2, if_pos ((lg_cmp_eq _ _).mpr ((e3 q).1 q2))]
      exact hg _ _ _ _ _ _ _ _ _ _ _ _ _ _ _ _ _ _ _ _ _ _ _ _ _ _ _ _ _ _ _ _ _ hI
    · rw [if_neg q2, if_pos ((lg_cmp_eq _ _).mpr ((e3 q).2 q2))]
      exact hg _ _ _ _ _ _ _ _ _ _ _ _ _ _ _ _ _ _ _ _ _ _ _ _ _ _ _ _ _ _ _ _ _ hI
  · rw [if_neg q]
    exact hg _ _ _ _ _ _ _ _ _ _ _ _ _ _ _ _ _ _ _ _ _ _ _ _ _ _ _ _ _ _ _ _ _ hI
theorem cs_19 {N L : Nat} {xs : Nat → Int32} {gL : (Nat) → (Int32) → (Int32) → (Int32) → (Int32) → (Int32) → (Int32) → (Nat → Int32) → (Int32) → (Int32) → (Int32) → (Int32) → (Nat → Int32) → (Int32) → (Nat → Int32) → (Int32) → (Nat → Int32) → (Int32) → (Int32) → (Int32) → (Int32) → (Int32) → (Int32) → (Int32) → (Int32) → (Int32) → (Int32) → (Int32) → (Int32) → (Int32) → (Int32) → (Int32) → (Int32) → (Int32) → (Nat → Int32) → (Nat → Int32) → (Nat → Int32) → (Nat → Int32) → (Nat → Int32) → (Nat → Int32) → (Nat → Int32) → (Nat → Int32) → (Nat → Int64) → Option Unit} {jj : Nat} {n k : Nat} {a b : Nat → Nat} {d r g : Nat} {br so lo : Int32} {ends : Nat → Int32} {cl ea on : Int32} {dac rac hol : Nat → Int32} {tc te to ac ae ao th : Int32} {one oth isb log seq mho mih : Nat → Int32} {far : Nat → Int32} {out : Nat → Int64} (hN : 300 ≤ N) (hL : 4 * jj + 4 ≤ L) (hLL : L ≤ 2048) (hg : GO gL jj) (hI : INV n k a b d r g br so lo ends cl ea on dac rac hol one oth isb log seq mho mih) :
    fL_c19 N L xs gL jj (nI (4 * jj)) (nI n) (nI k) br so lo ends cl ea on (nI d) dac (nI r) rac (nI g) hol tc te to ac ae ao th (nI n) (nI k) so lo cl ea on (nI d) (nI r) (nI g) one oth isb log seq mho mih far out = some () := by
  obtain ⟨i1, i2, i3, i4, i5, i6, i7, i8⟩ := id hI
  have h40 : 40 ≤ N := by omega
  have g1 : ∀ {α : Type} (q : Option α), gin (nI (4 * jj) + 1) L q = q := fun q => by rw [nI_1, gin_ok (by omega) (by omega)]
  have g2 : ∀ {α : Type} (q : Option α), gin (nI (4 * jj) + 2) L q = q := fun q => by rw [show nI (4 * jj) + 2 = nI (4 * jj + 2) from nI_add (4 * jj) 2, gin_ok (by omega) (by omega)]
  have g3 : ∀ {α : Type} (q : Option α), gin (nI (4 * jj) + 3) L q = q := fun q => by rw [show nI (4 * jj) + 3 = nI (4 * jj + 3) from nI_add (4 * jj) 3, gin_ok (by omega) (by omega)]
  have g4 : nI (4 * jj) + 4 = nI (4 * (jj + 1)) := nI_add (4 * jj) 4
  unfold fL_c19
  rw [g4]
  unfold fX4_live
  rw [c_live i1.1 i1.2.1 i3.o h40, m_liveS i1.1 i1.2.2.1 i1.2.2.2.1 i3.o h40, bd1_ok, bd1_ok, bd2_ok, if_pos rfl]
  exact hg _ _ _ _ _ _ _ _ _ _ _ _ _ _ _ _ _ _ _ _ _ _ _ _ _ _ _ _ _ _ _ _ _ hI
theorem cs_20 {N L : Nat} {xs : Nat → Int32} {gL : (Nat) → (Int32) → (Int32) → (Int32) → (Int32) → (Int32) → (Int32) → (Nat → Int32) → (Int32) → (Int32) → (Int32) → (Int32) → (Nat → Int32) → (Int32) → (Nat → Int32) → (Int32) → (Nat → Int32) → (Int32) → (Int32) → (Int32) → (Int32) → (Int32) → (Int32) → (Int32) → (Int32) → (Int32) → (Int32) → (Int32) → (Int32) → (Int32) → (Int32) → (Int32) → (Int32) → (Int32) → (Nat → Int32) → (Nat → Int32) → (Nat → Int32) → (Nat → Int32) → (Nat → Int32) → (Nat → Int32) → (Nat → Int32) → (Nat → Int32) → (Nat → Int64) → Option Unit} {jj : Nat} {n k : Nat} {a b : Nat → Nat} {d r g : Nat} {br so lo : Int32} {ends : Nat → Int32} {cl ea on : Int32} {dac rac hol : Nat → Int32} {tc te to ac ae ao th : Int32} {one oth isb log seq mho mih : Nat → Int32} {far : Nat → Int32} {out : Nat → Int64} (hN : 300 ≤ N) (hL : 4 * jj + 4 ≤ L) (hLL : L ≤ 2048) (hg : GO gL jj) (hI : INV n k a b d r g br so lo ends cl ea on dac rac hol one oth isb log seq mho mih) :
    fL_c20 N L xs gL jj (nI (4 * jj)) (nI n) (nI k) br so lo ends cl ea on (nI d) dac (nI r) rac (nI g) hol tc te to ac ae ao th (nI n) (nI k) so lo cl ea on (nI d) (nI r) (nI g) one oth isb log seq mho mih far out = some () := by
  obtain ⟨i1, i2, i3, i4, i5, i6, i7, i8⟩ := id hI
  have h40 : 40 ≤ N := by omega
  have g1 : ∀ {α : Type} (q : Option α), gin (nI (4 * jj) + 1) L q = q := fun q => by rw [nI_1, gin_ok (by omega) (by omega)]
  have g2 : ∀ {α : Type} (q : Option α), gin (nI (4 * jj) + 2) L q = q := fun q => by rw [show nI (4 * jj) + 2 = nI (4 * jj + 2) from nI_add (4 * jj) 2, gin_ok (by omega) (by omega)]
  have g3 : ∀ {α : Type} (q : Option α), gin (nI (4 * jj) + 3) L q = q := fun q => by rw [show nI (4 * jj) + 3 = nI (4 * jj + 3) from nI_add (4 * jj) 3, gin_ok (by omega) (by omega)]
  have g4 : nI (4 * jj) + 4 = nI (4 * (jj + 1)) := nI_add (4 * jj) 4
  unfold fL_c20
  rw [g4]
  unfold fX4_loaded
  rw [c_loaded i1.1 i1.2.1 i3.o i3.2.1 h40, m_loadedS i1.1 i1.2.2.1 i1.2.2.2.1 i3.o i3.2.1 h40, bd1_ok, bd1_ok, bd2_ok, if_pos rfl]
  exact hg _ _ _ _ _ _ _ _ _ _ _ _ _ _ _ _ _ _ _ _ _ _ _ _ _ _ _ _ _ _ _ _ _ hI
theorem cs_21 {N L : Nat} {xs : Nat → Int32} {gL : (Nat) → (Int32) → (Int32) → (Int32) → (Int32) → (Int32) → (Int32) → (Nat → Int32) → (Int32) → (Int32) → (Int32) → (Int32) → (Nat → Int32) → (Int32) → (Nat → Int32) → (Int32) → (Nat → Int32) → (Int32) → (Int32) → (Int32) → (Int32) → (Int32) → (Int32) → (Int32) → (Int32) → (Int32) → (Int32) → (Int32) → (Int32) → (Int32) → (Int32) → (Int32) → (Int32) → (Int32) → (Nat → Int32) → (Nat → Int32) → (Nat → Int32) → (Nat → Int32) → (Nat → Int32) → (Nat → Int32) → (Nat → Int32) → (Nat → Int32) → (Nat → Int64) → Option Unit} {jj : Nat} {n k : Nat} {a b : Nat → Nat} {d r g : Nat} {br so lo : Int32} {ends : Nat → Int32} {cl ea on : Int32} {dac rac hol : Nat → Int32} {tc te to ac ae ao th : Int32} {one oth isb log seq mho mih : Nat → Int32} {far : Nat → Int32} {out : Nat → Int64} (hN : 300 ≤ N) (hL : 4 * jj + 4 ≤ L) (hLL : L ≤ 2048) (hg : GO gL jj) (hI : INV n k a b d r g br so lo ends cl ea on dac rac hol one oth isb log seq mho mih) :
    fL_c21 N L xs gL jj (nI (4 * jj)) (nI n) (nI k) br so lo ends cl ea on (nI d) dac (nI r) rac (nI g) hol tc te to ac ae ao th (nI n) (nI k) so lo cl ea on (nI d) (nI r) (nI g) one oth isb log seq mho mih far out = some () := by
  obtain ⟨i1, i2, i3, i4, i5, i6, i7, i8⟩ := id hI
  have h40 : 40 ≤ N := by omega
  have g1 : ∀ {α : Type} (q : Option α), gin (nI (4 * jj) + 1) L q = q := fun q => by rw [nI_1, gin_ok (by omega) (by omega)]
  have g2 : ∀ {α : Type} (q : Option α), gin (nI (4 * jj) + 2) L q = q := fun q => by rw [show nI (4 * jj) + 2 = nI (4 * jj + 2) from nI_add (4 * jj) 2, gin_ok (by omega) (by omega)]
  have g3 : ∀ {α : Type} (q : Option α), gin (nI (4 * jj) + 3) L q = q := fun q => by rw [show nI (4 * jj) + 3 = nI (4 * jj + 3) from nI_add (4 * jj) 3, gin_ok (by omega) (by omega)]
  have g4 : nI (4 * jj) + 4 = nI (4 * (jj + 1)) := nI_add (4 * jj) 4
  unfold fL_c21
  rw [g4]
  unfold fX4_earthed
  rw [c_earthed i1.1 i1.2.1 i3.2.2.2.1 h40, m_earthedS i1.1 i1.2.2.1 i1.2.2.2.1 i3.2.2.2.1 h40, bd1_ok, bd1_ok, bd2_ok, if_pos rfl]
  exact hg _ _ _ _ _ _ _ _ _ _ _ _ _ _ _ _ _ _ _ _ _ _ _ _ _ _ _ _ _ _ _ _ _ hI
theorem cs_22 {N L : Nat} {xs : Nat → Int32} {gL : (Nat) → (Int32) → (Int32) → (Int32) → (Int32) → (Int32) → (Int32) → (Nat → Int32) → (Int32) → (Int32) → (Int32) → (Int32) → (Nat → Int32) → (Int32) → (Nat → Int32) → (Int32) → (Nat → Int32) → (Int32) → (Int32) → (Int32) → (Int32) → (Int32) → (Int32) → (Int32) → (Int32) → (Int32) → (Int32) → (Int32) → (Int32) → (Int32) → (Int32) → (Int32) → (Int32) → (Int32) → (Nat → Int32) → (Nat → Int32) → (Nat → Int32) → (Nat → Int32) → (Nat → Int32) → (Nat → Int32) → (Nat → Int32) → (Nat → Int32) → (Nat → Int64) → Option Unit} {jj : Nat} {n k : Nat} {a b : Nat → Nat} {d r g : Nat} {br so lo : Int32} {ends : Nat → Int32} {cl ea on : Int32} {dac rac hol : Nat → Int32} {tc te to ac ae ao th : Int32} {one oth isb log seq mho mih : Nat → Int32} {far : Nat → Int32} {out : Nat → Int64} (hN : 300 ≤ N) (hL : 4 * jj + 4 ≤ L) (hLL : L ≤ 2048) (hg : GO gL jj) (hI : INV n k a b d r g br so lo ends cl ea on dac rac hol one oth isb log seq mho mih) :
    fL_c22 N L xs gL jj (nI (4 * jj)) (nI n) (nI k) br so lo ends cl ea on (nI d) dac (nI r) rac (nI g) hol tc te to ac ae ao th (nI n) (nI k) so lo cl ea on (nI d) (nI r) (nI g) one oth isb log seq mho mih far out = some () := by
  obtain ⟨i1, i2, i3, i4, i5, i6, i7, i8⟩ := id hI
  have h40 : 40 ≤ N := by omega
  have g1 : ∀ {α : Type} (q : Option α), gin (nI (4 * jj) + 1) L q = q := fun q => by rw [nI_1, gin_ok (by omega) (by omega)]
  have g2 : ∀ {α : Type} (q : Option α), gin (nI (4 * jj) + 2) L q = q := fun q => by rw [show nI (4 * jj) + 2 = nI (4 * jj + 2) from nI_add (4 * jj) 2, gin_ok (by omega) (by omega)]
  have g3 : ∀ {α : Type} (q : Option α), gin (nI (4 * jj) + 3) L q = q := fun q => by rw [show nI (4 * jj) + 3 = nI (4 * jj + 3) from nI_add (4 * jj) 3, gin_ok (by omega) (by omega)]
  have g4 : nI (4 * jj) + 4 = nI (4 * (jj + 1)) := nI_add (4 * jj) 4
  unfold fL_c22
  rw [g4]
  simp only [g1, g2, g3, jn_if]
  obtain ⟨code, v, out', e1, e2, e3⟩ := op_part (N := N) (c := cl) (out := out) (br := br) (so := so) (lo := lo) (e := ea) (o := on) (th := th) (so' := so) (lo' := lo) (ea := ea) (on := on) (lg := nI d) (wr := nI r) (pe := nI g) (p := (xs (nI (4 * jj) + 1).toNatClampNeg)) i1.1 i1.2.1 i1.2.2.1 i1.2.2.2.1 h40
  rw [e1, bd2_ok, e2, bd2_ok]
  unfold fX5_thrown
  rw [bd1_ok]
  exact fin_ok e3 (hg _ _ _ _ _ _ _ _ _ _ _ _ _ _ _ _ _ _ _ _ _ _ _ _ _ _ _ _ _ _ _ _ _ hI)
theorem cs_23 {N L : Nat} {xs : Nat → Int32} {gL : (Nat) → (Int32) → (Int32) → (Int32) → (Int32) → (Int32) → (Int32) → (Nat → Int32) → (Int32) → (Int32) → (Int32) → (Int32) → (Nat → Int32) → (Int32) → (Nat → Int32) → (Int32) → (Nat → Int32) → (Int32) → (Int32) → (Int32) → (Int32) → (Int32) → (Int32) → (Int32) → (Int32) → (Int32) → (Int32) → (Int32) → (Int32) → (Int32) → (Int32) → (Int32) → (Int32) → (Int32) → (Nat → Int32) → (Nat → Int32) → (Nat → Int32) → (Nat → Int32) → (Nat → Int32) → (Nat → Int32) → (Nat → Int32) → (Nat → Int32) → (Nat → Int64) → Option Unit} {jj : Nat} {n k : Nat} {a b : Nat → Nat} {d r g : Nat} {br so lo : Int32} {ends : Nat → Int32} {cl ea on : Int32} {dac rac hol : Nat → Int32} {tc te to ac ae ao th : Int32} {one oth isb log seq mho mih : Nat → Int32} {far : Nat → Int32} {out : Nat → Int64} (hN : 300 ≤ N) (hL : 4 * jj + 4 ≤ L) (hLL : L ≤ 2048) (hg : GO gL jj) (hI : INV n k a b d r g br so lo ends cl ea on dac rac hol one oth isb log seq mho mih) :
    fL_c23 N L xs gL jj (nI (4 * jj)) (nI n) (nI k) br so lo ends cl ea on (nI d) dac (nI r) rac (nI g) hol tc te to ac ae ao th (nI n) (nI k) so lo cl ea on (nI d) (nI r) (nI g) one oth isb log seq mho mih far out = some () := by
  obtain ⟨i1, i2, i3, i4, i5, i6, i7, i8⟩ := id hI
  have h40 : 40 ≤ N := by omega
  have g1 : ∀ {α : Type} (q : Option α), gin (nI (4 * jj) + 1) L q = q := fun q => by rw [nI_1, gin_ok (by omega) (by omega)]
  have g2 : ∀ {α : Type} (q : Option α), gin (nI (4 * jj) + 2) L q = q := fun q => by rw [show nI (4 * jj) + 2 = nI (4 * jj + 2) from nI_add (4 * jj) 2, gin_ok (by omega) (by omega)]
  have g3 : ∀ {α : Type} (q : Option α), gin (nI (4 * jj) + 3) L q = q := fun q => by rw [show nI (4 * jj) + 3 = nI (4 * jj + 3) from nI_add (4 * jj) 3, gin_ok (by omega) (by omega)]
  have g4 : nI (4 * jj) + 4 = nI (4 * (jj + 1)) := nI_add (4 * jj) 4
  unfold fL_c23
  rw [g4]
  unfold fX4_parts
  rw [c_parts i1.1 i1.2.1 h40, m_parts i1.1 i1.2.2.1 i1.2.2.2.1 h40, bd1_ok, bd1_ok, bd2_ok, if_pos rfl]
  exact hg _ _ _ _ _ _ _ _ _ _ _ _ _ _ _ _ _ _ _ _ _ _ _ _ _ _ _ _ _ _ _ _ _ hI
