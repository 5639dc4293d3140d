theorem ifn_and {P Q : Prop} {f : Option Int32} (h : ¬ P → f = some (bI Q)) : (if bI P = 0 then f else some 0) = some (bI (¬ P ∧ Q)) := by
  by_cases p : P
  · rw [if_neg (fun z => bI_z.mp z p), bI_0 (fun z => z.1 p)]
  · rw [if_pos (bI_z.mpr p), h p]
    exact congrArg some (bI_c ⟨fun z => ⟨p, z⟩, fun z => z.2⟩)
theorem ifp_and {P Q : Prop} {f : Option Int32} (h : P → f = some (bI Q)) : (if bI P = 0 then some 0 else f) = some (bI (P ∧ Q)) := by
  by_cases p : P
  · rw [if_neg (fun z => bI_z.mp z p), h p]
    exact congrArg some (bI_c ⟨fun z => ⟨p, z⟩, fun z => z.2⟩)
  · rw [if_pos (bI_z.mpr p), bI_0 (fun z => p z.1)]
theorem ifp_or {P Q : Prop} {f : Option Int32} (h : ¬ P → f = some (bI Q)) : (if bI P = 0 then f else some 1) = some (bI (P ∨ Q)) := by
  by_cases p : P
  · rw [if_neg (fun z => bI_z.mp z p), bI_1 (Or.inl p)]
  · rw [if_pos (bI_z.mpr p), h p]
    exact congrArg some (bI_c ⟨fun z => Or.inr z, fun z => z.resolve_left p⟩)
theorem ifn_1 {P : Prop} : (if bI P = 0 then (some 1 : Option Int32) else some 0) = some (bI (¬ P)) := ite_10 bI_z
theorem ifp_1 {P : Prop} : (if bI P = 0 then (some 0 : Option Int32) else some 1) = some (bI P) := ite_01 bI_z
/-- loaded -/
def LD (k : Nat) (a b : Nat → Nat) (lo c o : Int32) (v : Nat) : Prop := bt (CL k a b c o) v = true ∧ bt (CL k a b c lo) v = true
section RSN
variable {n k : Nat} {a b : Nat → Nat} {ends one oth isb : Nat → Int32} {br so lo c e o c' e' o' : Int32} {N w : Nat}
theorem ld_and (hG : GR n k a b) (hs : w < k) : (CL k a b c o &&& CL k a b c lo) &&& edg a b w = 0 ↔ ¬ (LD k a b lo c o (a w) ∨ LD k a b lo c o (b w)) := by
  rw [ends_and hG hs, b_and, b_and, Bool.and_eq_true, Bool.and_eq_true]
  exact Iff.rfl
theorem c_breaks (hG : GR n k a b) (he : ∀ s, s < k → ends s = edg a b s) (ho : inN n o) (hl : inN n lo) (hw : w < k) (hN : 40 ≤ N) :
    fX4_breaksLoad N (nI n) (nI k) br so lo ends c e o c' e' o' (nI w) = some (bI (¬ bt br w = true ∧ (LD k a b lo c o (a w) ∨ LD k a b lo c o (b w)) ∧ ¬ cn k a b c' (a w) (b w))) := by
  have hk := hG.2.1
  unfold fX4_breaksLoad
  rw [c_brk (by omega), bd1_ok, c_loaded hG he ho hl hN, bd1_ok, c_endsOf hG he hw, bd1_ok, c_conn hG he hw hN, bd1_ok]
  refine ifn_and (fun _ => ?_)
  by_cases q : LD k a b lo c o (a w) ∨ LD k a b lo c o (b w)
  · rw [if_neg (fun z => (ld_and hG hw).mp z q), ifn_1]
    exact congrArg some (bI_c ⟨fun z => ⟨q, z⟩, fun z => z.2⟩)
  · rw [if_pos ((ld_and hG hw).mpr q), bI_0 (fun z => q z.1)]
theorem c_makes (hG : GR n k a b) (he : ∀ s, s < k → ends s = edg a b s) (ho : inN n o') (hl : inN n lo) (hw : w < k) (hN : 40 ≤ N) :
    fX4_makesLoad N (nI n) (nI k) br so lo ends c e o c' e' o' (nI w) = some (bI (¬ bt br w = true ∧ ¬ cn k a b c (a w) (b w) ∧ (LD k a b lo c' o' (a w) ∨ LD k a b lo c' o' (b w)))) := by
  have hk := hG.2.1
  unfold fX4_makesLoad
  rw [c_brk (by omega), bd1_ok, c_conn hG he hw hN, bd1_ok, c_loaded hG he ho hl hN, bd1_ok, c_endsOf hG he hw, bd1_ok]
  refine ifn_and (fun _ => ifn_and (fun _ => ?_))
  exact ite_01 (ld_and hG hw)
theorem c_joins (hG : GR n k a b) (he : ∀ s, s < k → ends s = edg a b s) (ho : inN n o) (hie : inN n e) (hw : w < k) (hN : 40 ≤ N) :
    fX4_joinsLiveAndEarthed N (nI n) (nI k) br so lo ends c e o (nI w) = some (bI ((bt (CL k a b c o) (a w) = true ∨ bt (CL k a b c o) (b w) = true) ∧ (bt (CL k a b c e) (a w) = true ∨ bt (CL k a b c e) (b w) = true))) := by
  unfold fX4_joinsLiveAndEarthed
  rw [c_endsOf hG he hw, bd1_ok, c_live hG he ho hN, bd1_ok, c_earthed hG he hie hN, bd1_ok]
  by_cases q : bt (CL k a b c o) (a w) = true ∨ bt (CL k a b c o) (b w) = true
  · rw [if_neg (fun z => (ends_and hG hw).mp z q)]
    rw [ite_01 (ends_and hG hw)]
    exact congrArg some (bI_c ⟨fun z => ⟨q, z⟩, fun z => z.2⟩)
  · rw [if_pos ((ends_and hG hw).mpr q), bI_0 (fun z => q z.1)]
/-- what an interlock of its kind forbids (c' the closed switches behind the act) -/
def BAR (k : Nat) (a b : Nat → Nat) (br lo c e o c' : Int32) (q w : Nat) : Prop :=
  if q = 0 then ¬ bt br w = true ∧ (LD k a b lo c o (a w) ∨ LD k a b lo c o (b w)) ∧ ¬ cn k a b c' (a w) (b w)
  else if q = 1 then (bt (CL k a b c o) (a w) = true ∧ bt (CL k a b c e) (b w) = true) ∨ (bt (CL k a b c o) (b w) = true ∧ bt (CL k a b c e) (a w) = true) ∨ (¬ bt br w = true ∧ ¬ (cn k a b c (a w) (b w) ∨ ¬ LD k a b lo c' o (a w) ∧ ¬ LD k a b lo c' o (b w)))
  else if q = 2 then bt (CL k a b c o) w = true
  else if q = 4 then bt (CL k a b c e) w = true else False
theorem c_inter {q : Nat} (hG : GR n k a b) (he : ∀ s, s < k → ends s = edg a b s) (ho : inN n o) (hl : inN n lo) (hie : inN n e) (hq : q ≤ 5) (hw : q < 2 → w < k) (hw2 : w < 32) (hN : 40 ≤ N) (hdis : ∀ v, ¬ (bt (CL k a b c o) v = true ∧ bt (CL k a b c e) v = true)) (hoo : q < 2 → o' = o) :
    fX4_isInterlocked N (nI n) (nI k) br so lo ends c e o c' e' o' (nI q) (nI w) = some (bI (BAR k a b br lo c e o c' q w)) := by
  unfold fX4_isInterlocked
  rcases six hq with rfl | rfl | rfl | rfl | rfl | rfl
  · rw [k0, if_pos rfl, c_breaks hG he ho hl (hw (by omega)) hN, bd1_ok, gd_ok bI_bz]
    rfl
  · have hw := hw (by omega)
    have := hoo (by omega)
    subst this
    rw [k1, if_neg (by decide), if_pos rfl, c_joins hG he ho hie hw hN, bd1_ok, c_makes hG he ho hl hw hN, bd1_ok, ifp_1]
    rw [ifp_or (fun _ => rfl)]
    refine congrArg some (bI_c ?_)
    simp only [BAR]
    rw [if_neg (by decide), if_pos trivial]
    constructor
    · rintro (⟨h1, h2⟩ | ⟨h1, h2, h3⟩)
      · rcases h1 with h1 | h1 <;> rcases h2 with h2 | h2
        · exact (hdis _ ⟨h1, h2⟩).elim
        · exact Or.inl ⟨h1, h2⟩
        · exact Or.inr (Or.inl ⟨h1, h2⟩)
        · exact (hdis _ ⟨h1, h2⟩).elim
      · exact Or.inr (Or.inr ⟨h1, fun z => z.elim h2 (fun z => h3.elim z.1 z.2)⟩)
    · rintro (⟨h1, h2⟩ | ⟨h1, h2⟩ | ⟨h1, h2⟩)
      · exact Or.inl ⟨Or.inl h1, Or.inr h2⟩
      · exact Or.inl ⟨Or.inr h1, Or.inl h2⟩
      · refine Or.inr ⟨h1, fun z => h2 (Or.inl z), ?_⟩
        exact Classical.byContradiction (fun z => h2 (Or.inr ⟨fun y => z (Or.inl y), fun y => z (Or.inr y)⟩))
  · rw [k2, if_neg (by decide), if_neg (by decide), if_pos rfl, c_live hG he ho hN, bd1_ok, tst0 hw2]
    rfl
  · rw [k3, if_neg (by decide), if_neg (by decide), if_neg (by decide), if_pos rfl]
    exact congrArg some (bI_0 (fun z => by simp [BAR] at z)).symm
  · rw [k4, if_neg (by decide), if_neg (by decide), if_neg (by decide), if_neg (by decide), if_pos rfl, c_earthed hG he hie hN, bd1_ok, tst0 hw2]
    rfl
  · rw [k5, if_neg (by decide), if_neg (by decide), if_neg (by decide), if_neg (by decide), if_neg (by decide)]
    exact congrArg some (bI_0 (fun z => by simp [BAR] at z)).symm
end RSN

