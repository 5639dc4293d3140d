/-! how near a source is: from the sources, and from the node -/
def NB (k : Nat) (a b : Nat → Nat) (x y : Nat) : Prop := x = y ∨ ∃ t, t < k ∧ (x = a t ∨ x = b t) ∧ (y = a t ∨ y = b t)
theorem NB.sm {k : Nat} {a b : Nat → Nat} {x y : Nat} (h : NB k a b x y) : NB k a b y x := by
  rcases h with h | ⟨t, h1, h2, h3⟩
  · exact Or.inl h.symm
  · exact Or.inr ⟨t, h1, h3, h2⟩
def DD (k : Nat) (a b : Nat → Nat) (c : Int32) : Nat → Nat → Nat → Prop
  | 0, u, v => cn k a b c u v
  | i + 1, u, v => ∃ x y, DD k a b c i u x ∧ NB k a b x y ∧ cn k a b c y v
noncomputable def RS (k : Nat) (a b : Nat → Nat) (c o : Int32) : Nat → Int32
  | 0 => CL k a b c o
  | i + 1 => CL k a b c (WNx a b (RS k a b c o i) k)
section NEAR
variable {n k : Nat} {a b : Nat → Nat} {c o : Int32} {p : Nat}
theorem DD_f : ∀ i u v, (∃ x y, cn k a b c u x ∧ NB k a b x y ∧ DD k a b c i y v) ↔ DD k a b c (i + 1) u v
  | 0, u, v => Iff.rfl
  | i + 1, u, v => by
    constructor
    · rintro ⟨x, y, h1, h2, x', y', h3, h4, h5⟩
      exact ⟨x', y', (DD_f i u x').mp ⟨x, y, h1, h2, h3⟩, h4, h5⟩
    · rintro ⟨x', y', h1, h2, h3⟩
      obtain ⟨x, y, h4, h5, h6⟩ := (DD_f i u x').mpr h1
      exact ⟨x, y, h4, h5, x', y', h6, h2, h3⟩
theorem DD_s : ∀ i u v, DD k a b c i u v → DD k a b c i v u
  | 0, _, _, h => cn.sm h
  | i + 1, u, v, h => by
    obtain ⟨x, y, h1, h2, h3⟩ := h
    exact (DD_f i v u).mp ⟨y, x, h3.sm, h2.sm, DD_s i u x h1⟩
theorem WN_nb {R : Int32} {v : Nat} (hG : GR n k a b) : bt (WNx a b R k) v = true ↔ ∃ x, bt R x = true ∧ NB k a b x v := by
  rw [WNx_bt hG k (Nat.le_refl k)]
  constructor
  · rintro (h | ⟨t, h1, h2, h3⟩)
    · exact ⟨v, h, Or.inl rfl⟩
    · rcases h2 with h2 | h2
      · exact ⟨a t, h2, Or.inr ⟨t, h1, Or.inl rfl, h3⟩⟩
      · exact ⟨b t, h2, Or.inr ⟨t, h1, Or.inr rfl, h3⟩⟩
  · rintro ⟨x, h1, h2 | ⟨t, h3, h4, h5⟩⟩
    · rw [← h2]; exact Or.inl h1
    · refine Or.inr ⟨t, h3, ?_, h5⟩
      rcases h4 with h4 | h4
      · rw [h4] at h1; exact Or.inl h1
      · rw [h4] at h1; exact Or.inr h1
theorem RR_d (hG : GR n k a b) (hp : p < n) : ∀ i v, bt (RR k a b c p i) v = true ↔ DD k a b c i p v
  | 0, v => cl_bit hG hp
  | i + 1, v => by
    show bt (CL k a b c (WNx a b (RR k a b c p i) k)) v = true ↔ _
    rw [CL_bt hG (WN_in hG (RR_in hG hp i))]
    constructor
    · rintro ⟨y, h1, h2⟩
      obtain ⟨x, h3, h4⟩ := (WN_nb hG).mp h1
      exact ⟨x, y, (RR_d hG hp i x).mp h3, h4, h2⟩
    · rintro ⟨x, y, h1, h2, h3⟩
      exact ⟨y, (WN_nb hG).mpr ⟨x, (RR_d hG hp i x).mpr h1, h2⟩, h3⟩
theorem RS_in (hG : GR n k a b) (ho : inN n o) : ∀ i, inN n (RS k a b c o i)
  | 0 => CL_in hG ho
  | i + 1 => CL_in hG (WN_in hG (RS_in hG ho i))
theorem RS_d (hG : GR n k a b) (ho : inN n o) : ∀ i v, bt (RS k a b c o i) v = true ↔ ∃ u, bt o u = true ∧ DD k a b c i u v
  | 0, v => CL_bt hG ho
  | i + 1, v => by
    show bt (CL k a b c (WNx a b (RS k a b c o i) k)) v = true ↔ _
    rw [CL_bt hG (WN_in hG (RS_in hG ho i))]
    constructor
    · rintro ⟨y, h1, h2⟩
      obtain ⟨x, h3, h4⟩ := (WN_nb hG).mp h1
      obtain ⟨u, h5, h6⟩ := (RS_d hG ho i x).mp h3
      exact ⟨u, h5, x, y, h6, h4, h2⟩
    · rintro ⟨u, h1, x, y, h2, h3, h4⟩
      exact ⟨y, (WN_nb hG).mpr ⟨x, (RS_d hG ho i x).mpr ⟨u, h1, h2⟩, h3⟩, h4⟩
/-- the two ways to look at it -/
theorem RS_RR (hG : GR n k a b) (ho : inN n o) (hp : p < n) (i : Nat) : bt (RS k a b c o i) p = true ↔ ¬ RR k a b c p i &&& o = 0 := by
  rw [RS_d hG ho, q_andN]
  constructor
  · rintro ⟨u, h1, h2⟩
    exact ⟨u, (RR_d hG hp i u).mpr (DD_s i u p h2), h1⟩
  · rintro ⟨u, h1, h2⟩
    exact ⟨u, h2, DD_s i p u ((RR_d hG hp i u).mp h1)⟩
theorem RS_cl (hG : GR n k a b) (ho : inN n o) {u v : Nat} (hc : cn k a b c u v) (i : Nat) (h : bt (RS k a b c o i) u = true) : bt (RS k a b c o i) v = true := by
  cases i with
  | zero =>
    obtain ⟨x, h1, h2⟩ := (CL_bt hG ho).mp h
    exact (CL_bt hG ho).mpr ⟨x, h1, h2.tr hc⟩
  | succ i =>
    obtain ⟨x, h1, h2⟩ := (CL_bt hG (WN_in hG (RS_in hG ho i))).mp h
    exact (CL_bt hG (WN_in hG (RS_in hG ho i))).mpr ⟨x, h1, h2.tr hc⟩
/-- the next set, as the law builds it -/
theorem RS_nx {X : Int32} {i : Nat} (hG : GR n k a b) (ho : inN n o) (hX : ∀ v, bt X v = true ↔ bt (RS k a b c o i) v = true ∨ ∃ t, t < k ∧ (bt (RS k a b c o i) (a t) = true ∨ bt (RS k a b c o i) (b t) = true) ∧ (cn k a b c (a t) v ∨ cn k a b c (b t) v)) : X = RS k a b c o (i + 1) := by
  refine q_eq.mpr (fun v => ?_)
  show _ ↔ bt (CL k a b c (WNx a b (RS k a b c o i) k)) v = true
  rw [hX, CL_bt hG (WN_in hG (RS_in hG ho i))]
  constructor
  · rintro (h | ⟨t, h1, h2, h3⟩)
    · exact ⟨v, (WNx_bt hG k (Nat.le_refl k)).mpr (Or.inl h), cn.rf⟩
    · rcases h3 with h3 | h3
      · exact ⟨a t, (WNx_bt hG k (Nat.le_refl k)).mpr (Or.inr ⟨t, h1, h2, Or.inl rfl⟩), h3⟩
      · exact ⟨b t, (WNx_bt hG k (Nat.le_refl k)).mpr (Or.inr ⟨t, h1, h2, Or.inr rfl⟩), h3⟩
  · rintro ⟨u, h1, h2⟩
    rcases (WNx_bt hG k (Nat.le_refl k)).mp h1 with h | ⟨t, h3, h4, h5⟩
    · exact Or.inl (RS_cl hG ho h2 i h)
    · refine Or.inr ⟨t, h3, h4, ?_⟩
      rcases h5 with h5 | h5
      · rw [h5] at h2; exact Or.inl h2
      · rw [h5] at h2; exact Or.inr h2
end NEAR
