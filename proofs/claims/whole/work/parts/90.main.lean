theorem cs_24 {N L : Nat} {xs : Nat → Int32} {gL : (Nat) → (Int32) → (Int32) → (Int32) → (Int32) → (Int32) → (Int32) → (Nat → Int32) → (Int32) → (Int32) → (Int32) → (Int32) → (Nat → Int32) → (Int32) → (Nat → Int32) → (Int32) → (Nat → Int32) → (Int32) → (Int32) → (Int32) → (Int32) → (Int32) → (Int32) → (Int32) → (Int32) → (Int32) → (Int32) → (Int32) → (Int32) → (Int32) → (Int32) → (Int32) → (Int32) → (Int32) → (Nat → Int32) → (Nat → Int32) → (Nat → Int32) → (Nat → Int32) → (Nat → Int32) → (Nat → Int32) → (Nat → Int32) → (Nat → Int32) → (Nat → Int64) → Option Unit} {jj : Nat} {n k : Nat} {a b : Nat → Nat} {d r g : Nat} {br so lo : Int32} {ends : Nat → Int32} {cl ea on : Int32} {dac rac hol : Nat → Int32} {tc te to ac ae ao th : Int32} {one oth isb log seq mho mih : Nat → Int32} {far : Nat → Int32} {out : Nat → Int64} (hN : 300 ≤ N) (hL : 4 * jj + 4 ≤ L) (hLL : L ≤ 2048) (hg : GO gL jj) (hI : INV n k a b d r g br so lo ends cl ea on dac rac hol one oth isb log seq mho mih) :
    fL_c24 N L xs gL jj (nI (4 * jj)) (nI n) (nI k) br so lo ends cl ea on (nI d) dac (nI r) rac (nI g) hol tc te to ac ae ao th (nI n) (nI k) so lo cl ea on (nI d) (nI r) (nI g) one oth isb log seq mho mih far out = some () := by
  obtain ⟨i1, i2, i3, i4, i5, i6, i7, i8⟩ := id hI
  have h40 : 40 ≤ N := by omega
  have g1 : ∀ {α : Type} (q : Option α), gin (nI (4 * jj) + 1) L q = q := fun q => by rw [nI_1, gin_ok (by omega) (by omega)]
  have g2 : ∀ {α : Type} (q : Option α), gin (nI (4 * jj) + 2) L q = q := fun q => by rw [show nI (4 * jj) + 2 = nI (4 * jj + 2) from nI_add (4 * jj) 2, gin_ok (by omega) (by omega)]
  have g3 : ∀ {α : Type} (q : Option α), gin (nI (4 * jj) + 3) L q = q := fun q => by rw [show nI (4 * jj) + 3 = nI (4 * jj + 3) from nI_add (4 * jj) 3, gin_ok (by omega) (by omega)]
  have g4 : nI (4 * jj) + 4 = nI (4 * (jj + 1)) := nI_add (4 * jj) 4
  unfold fL_c24
  rw [g4]
  simp only [g1, g2, g3, jn_if]
  obtain ⟨code, v, out', far', e1, e2, e3⟩ := op_toLive (N := N) (c := cl) (out := out) (far := far) (br := br) (so := so) (lo := lo) (e := ea) (o := on) (th := th) (so' := so) (lo' := lo) (ea := ea) (lg := nI d) (wr := nI r) (pe := nI g) (P := (xs (nI (4 * jj) + 1).toNatClampNeg)) i1.1 i1.2.1 i1.2.2.1 i1.2.2.2.1 i3.o h40
  rw [e1, bd2_ok, e2, bd3_ok]
  unfold fX5_thrown
  rw [bd1_ok]
  exact fin_ok e3 (hg _ _ _ _ _ _ _ _ _ _ _ _ _ _ _ _ _ _ _ _ _ _ _ _ _ _ _ _ _ _ _ _ _ hI)
set_option maxHeartbeats 4000000 in
theorem pure_main {L : Nat} (hL : L ≤ 2048) (xs : Nat → Int32) : law_ends L xs := by
  refine ⟨300, 601, ?_⟩
  have key : ∀ (M jj : Nat) (n k : Nat) (a b : Nat → Nat) (d r g : Nat) (br so lo : Int32) (ends : Nat → Int32) (cl ea on : Int32) (dac rac hol : Nat → Int32) (tc te to ac ae ao th : Int32) (one oth isb log seq mho mih : Nat → Int32) (far : Nat → Int32) (out : Nat → Int64), jj ≤ 512 → 601 - jj ≤ M → INV n k a b d r g br so lo ends cl ea on dac rac hol one oth isb log seq mho mih → itL (fL_step 300 L xs) M jj (nI (4 * jj)) (nI n) (nI k) br so lo ends cl ea on (nI d) dac (nI r) rac (nI g) hol tc te to ac ae ao th (nI n) (nI k) so lo cl ea on (nI d) (nI r) (nI g) one oth isb log seq mho mih far out = some () := by
    intro M
    induction M with
    | zero => intro jj; intros; omega
    | succ M ih =>
      intro jj n k a b d r g br so lo ends cl ea on dac rac hol tc te to ac ae ao th one oth isb log seq mho mih far out hj hM hI
      rw [itL, fL_step_eq, gd_ok (by simp; omega)]
      by_cases hE : 4 * jj + 4 ≤ L
      · have e1 : ¬ nI L - 4 < nI (4 * jj) := by
          rw [show nI L - 4 = nI (L - 4) from nI_sub (p := 4) (by omega)]
          exact nI_nlt (by omega) (by omega)
        rw [if_neg e1, gin_ok (by omega) (by omega)]
        have hg : GO (itL (fL_step 300 L xs) M) jj := by
          intro n k a b d r g br so lo ends cl ea on dac rac hol tc te to ac ae ao th one oth isb log seq mho mih far out hI'
          exact ih (jj + 1) n k a b d r g br so lo ends cl ea on dac rac hol tc te to ac ae ao th one oth isb log seq mho mih far out (by omega) (by omega) hI'
        by_cases q0 : (xs (nI (4 * jj)).toNatClampNeg) &&& 31 = 0
        · rw [if_pos q0]
          exact cs_0 (by omega) hE hL hg hI
        rw [if_neg q0]
        by_cases q1 : (xs (nI (4 * jj)).toNatClampNeg) &&& 31 = 1
        · rw [if_pos q1]
          exact cs_1 (by omega) hE hL hg hI
        rw [if_neg q1]
        by_cases q2 : (xs (nI (4 * jj)).toNatClampNeg) &&& 31 = 2
        · rw [if_pos q2]
          exact cs_2 (by omega) hE hL hg hI
        rw [if_neg q2]
        by_cases q3 : (xs (nI (4 * jj)).toNatClampNeg) &&& 31 = 3
        · rw [if_pos q3]
          exact cs_3 (by omega) hE hL hg hI
        rw [if_neg q3]
        by_cases q4 : (xs (nI (4 * jj)).toNatClampNeg) &&& 31 = 4
        · rw [if_pos q4]
          exact cs_4 (by omega) hE hL hg hI
        rw [if_neg q4]
        by_cases q5 : (xs (nI (4 * jj)).toNatClampNeg) &&& 31 = 5
        · rw [if_pos q5]
          exact cs_5 (by omega) hE hL hg hI
        rw [if_neg q5]
        by_cases q6 : (xs (nI (4 * jj)).toNatClampNeg) &&& 31 = 6
        · rw [if_pos q6]
          exact cs_6 (by omega) hE hL hg hI
        rw [if_neg q6]
        by_cases q7 : (xs (nI (4 * jj)).toNatClampNeg) &&& 31 = 7
        · rw [if_pos q7]
          exact cs_7 (by omega) hE hL hg hI
        rw [if_neg q7]
        by_cases q8 : (xs (nI (4 * jj)).toNatClampNeg) &&& 31 = 8
        · rw [if_pos q8]
          exact cs_8 (by omega) hE hL hg hI
        rw [if_neg q8]
        by_cases q9 : (xs (nI (4 * jj)).toNatClampNeg) &&& 31 = 9
        · rw [if_pos q9]
          exact cs_9 (by omega) hE hL hg hI
        rw [if_neg q9]
        by_cases q10 : (xs (nI (4 * jj)).toNatClampNeg) &&& 31 = 10
        · rw [if_pos q10]
          exact cs_10 (by omega) hE hL hg hI
        rw [if_neg q10]
        by_cases q11 : (xs (nI (4 * jj)).toNatClampNeg) &&& 31 = 11
        · rw [if_pos q11]
          exact cs_11 (by omega) hE hL hg hI
        rw [if_neg q11]
        by_cases q12 : (xs (nI (4 * jj)).toNatClampNeg) &&& 31 = 12
        · rw [if_pos q12]
          exact cs_12 (by omega) hE hL hg hI
        rw [if_neg q12]
        by_cases q13 : (xs (nI (4 * jj)).toNatClampNeg) &&& 31 = 13
        · rw [if_pos q13]
          exact cs_13 (by omega) hE hL hg hI
        rw [if_neg q13]
        by_cases q14 : (xs (nI (4 * jj)).toNatClampNeg) &&& 31 = 14
        · rw [if_pos q14]
          exact cs_14 (by omega) hE hL hg hI
        rw [if_neg q14]
        by_cases q15 : (xs (nI (4 * jj)).toNatClampNeg) &&& 31 = 15
        · rw [if_pos q15]
          exact cs_15 (by omega) hE hL hg hI
        rw [if_neg q15]
        by_cases q16 : (xs (nI (4 * jj)).toNatClampNeg) &&& 31 = 16
        · rw [if_pos q16]
          exact cs_16 (by omega) hE hL hg hI
        rw [if_neg q16]
        by_cases q17 : (xs (nI (4 * jj)).toNatClampNeg) &&& 31 = 17
        · rw [if_pos q17]
          exact cs_17 (by omega) hE hL hg hI
        rw [if_neg q17]
        by_cases q18 : (xs (nI (4 * jj)).toNatClampNeg) &&& 31 = 18
        · rw [if_pos q18]
          exact cs_18 (by omega) hE hL hg hI
        rw [if_neg q18]
        by_cases q19 : (xs (nI (4 * jj)).toNatClampNeg) &&& 31 = 19
        · rw [if_pos q19]
          exact cs_19 (by omega) hE hL hg hI
        rw [if_neg q19]
        by_cases q20 : (xs (nI (4 * jj)).toNatClampNeg) &&& 31 = 20
        · rw [if_pos q20]
          exact cs_20 (by omega) hE hL hg hI
        rw [if_neg q20]
        by_cases q21 : (xs (nI (4 * jj)).toNatClampNeg) &&& 31 = 21
        · rw [if_pos q21]
          exact cs_21 (by omega) hE hL hg hI
        rw [if_neg q21]
        by_cases q22 : (xs (nI (4 * jj)).toNatClampNeg) &&& 31 = 22
        · rw [if_pos q22]
          exact cs_22 (by omega) hE hL hg hI
        rw [if_neg q22]
        by_cases q23 : (xs (nI (4 * jj)).toNatClampNeg) &&& 31 = 23
        · rw [if_pos q23]
          exact cs_23 (by omega) hE hL hg hI
        rw [if_neg q23]
        by_cases q24 : (xs (nI (4 * jj)).toNatClampNeg) &&& 31 = 24
        · rw [if_pos q24]
          exact cs_24 (by omega) hE hL hg hI
        rw [if_neg q24]
        rw [show nI (4 * jj) + 4 = nI (4 * (jj + 1)) from nI_add (4 * jj) 4]
        exact hg _ _ _ _ _ _ _ _ _ _ _ _ _ _ _ _ _ _ _ _ _ _ _ _ _ _ _ _ _ _ _ _ _ hI
      · have e1 : nI L - 4 < nI (4 * jj) := by
          have h2 : (nI L - 4).toInt = (L : Int) - 4 := by
            have h3 : (4 : Int32).toInt = 4 := rfl
            rw [Int32.toInt_sub, nI_toInt (by omega), h3, Int.bmod_eq_of_le (by omega) (by omega)]
          rw [Int32.lt_iff_toInt_lt, h2, nI_toInt (by omega)]
          omega
        rw [if_pos e1]
  have zin : ∀ m, inN m 0 := fun m v hv => by rw [b_0] at hv; cases hv
  have h := key 601 0 0 0 (fun _ => 0) (fun _ => 0) 0 0 0 0 0 0 (fun _ => 0) 0 0 0 (fun _ => 0) (fun _ => 0) (fun _ => 0) 0 0 0 0 0 0 0 (fun _ => 0) (fun _ => 0) (fun _ => 0) (fun _ => 0) (fun _ => 0) (fun _ => 0) (fun _ => 0) (fun _ => 0) (fun _ => 0) (by omega) (by omega)
    ⟨⟨⟨by omega, by omega, fun s hs => absurd hs (Nat.not_lt_zero s)⟩, fun s hs => absurd hs (Nat.not_lt_zero s), fun s hs => absurd hs (Nat.not_lt_zero s), fun s hs => absurd hs (Nat.not_lt_zero s), fun s hs => absurd hs (Nat.not_lt_zero s)⟩, zin 0, ⟨zin 0, zin 0, zin 0, zin 0, fun v hv => hv, fun v hv => absurd (CL_in (n := 0) ⟨by omega, by omega, fun s hs => absurd hs (Nat.not_lt_zero s)⟩ (zin 0) v hv.1) (Nat.not_lt_zero v)⟩, by omega, fun j hj => absurd hj (Nat.not_lt_zero j), by omega, fun j hj => absurd hj (Nat.not_lt_zero j), ⟨by omega, fun j hj => absurd hj (Nat.not_lt_zero j)⟩⟩
  rw [Nat.mul_zero, nI_0] at h
  exact h
theorem whole_start {p : Program} {e : Env} {s : State} {m : MethodId} {below : List Frame} {meth : Method} {c : Code} (l : Launch) (hflags : l.flags = flags0) {b L : Nat} {xs : Nat → Int32} (hL : L ≤ 2048) (C0 : lw_At p s m meth c b L xs) : W p l e room_1 s m #[Value.ref b] below meth c s.heap [] 0 0 (lw_Z below #[Value.ref b] s) (entryFrame m ([Value.ref b] : List Value).toArray 7) :=
  start_law l hflags C0 (pure_main hL xs)
