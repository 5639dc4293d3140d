section BUILD
variable {n k : Nat} {a b : Nat → Nat} {ends one oth isb : Nat → Int32} {br so lo c e o : Int32} {N d r g q w : Nat} {hol mho mih dac log rac seq : Nat → Int32}
theorem inN_m {m : Nat} {S : Int32} (h : inN n S) (hm : n ≤ m) : inN m S := fun v hv => Nat.lt_of_lt_of_le (h v hv) hm
theorem ACT.m {n' k' : Nat} (h : ACT n k q w) (hn : n ≤ n') (hk : k ≤ k') : ACT n' k' q w := ⟨h.1, fun z => Nat.lt_of_lt_of_le (h.2.1 z) hk, fun z => Nat.lt_of_lt_of_le (h.2.2 z) hn⟩
theorem RW_m {n' k' d : Nat} {f h : Nat → Int32} (hR : RW n k d f h) (hn : n ≤ n') (hk : k ≤ k') : RW n' k' d f h := fun j hj => by
  obtain ⟨h1, q, w, hA, h2⟩ := hR j hj
  exact ⟨h1, q, w, hA.m hn hk, h2⟩
theorem add_in {S p : Int32} (hS : inN n S) (hn : n < 16) : inN (n + 1) (S ||| (if p = 0 then 0 else ((1 : Int32) <<< (nI n &&& 31)))) := fun v hv => by
  rw [b_or, Bool.or_eq_true] at hv
  rcases hv with z | z
  · have := hS v z; omega
  · split at z
    · rw [b_0] at z; cases z
    · have := (q_bitT (by omega)).mp z
      omega
theorem add_in2 {S p : Int32} (hS : inN k S) (hn : k < 24) : inN (k + 1) (S ||| (if p = 0 then 0 else ((1 : Int32) <<< (nI k &&& 31)))) := fun v hv => by
  rw [b_or, Bool.or_eq_true] at hv
  rcases hv with z | z
  · have := hS v z; omega
  · split at z
    · rw [b_0] at z; cases z
    · have := (q_bitT (by omega)).mp z
      omega
theorem cn_new {a' b' : Nat → Nat} (hc : inN k c) (ha : ∀ s, s < k → a' s = a s) (hb : ∀ s, s < k → b' s = b s) : cn (k + 1) a' b' c = cn k a b c := by
  funext u v
  refine propext ⟨fun h P hP => h P (fun s hs hb' => ?_), fun h P hP => h P (fun s hs hb' => ?_)⟩
  · have := hc s hb'
    rw [ha s this, hb s this]
    exact hP s this hb'
  · have := hP s (by omega) hb'
    rw [ha s hs, hb s hs] at this
    exact this
end BUILD

