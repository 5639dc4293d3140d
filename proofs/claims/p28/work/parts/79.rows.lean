/-! rows of acts -/
def ROW (n k : Nat) (x : Int32) : Prop := ∃ q w, ACT n k q w ∧ x = nI (100 * q + w)
def RW (n k d : Nat) (f h : Nat → Int32) : Prop := ∀ j, j < d → f j = h j ∧ ROW n k (f j)
def OPX (x : Int32) : Int32 := if ((x / 100) - (x / 100) / 2 * 2) = 0 then x + 100 else x - 100
section ROWS
variable {n k : Nat} {a b : Nat → Nat}
theorem nI_sub {i p : Nat} (h : p ≤ i) : nI i - nI p = nI (i - p) := by
  have : nI i = nI (i - p) + nI p := by rw [nI_add, Nat.sub_add_cancel h]
  rw [this, Int32.add_sub_cancel]
theorem upd_s {f : Nat → Int32} {j : Nat} {x : Int32} : upd f j x j = x := by unfold upd; rw [if_pos rfl]
theorem upd_o {f : Nat → Int32} {j i : Nat} {x : Int32} (h : ¬ i = j) : upd f j x i = f i := by unfold upd; rw [if_neg h]
theorem c_append {N s rn : Nat} {arr : Nat → Int32} {v : Int32} (h : s < rn) (hr : rn ≤ 200) : fX0_append N (nI s) rn arr v = some (upd arr s v, nI (s + 1)) := by
  unfold fX0_append
  rw [gin_ok h (by omega), nI_j (by omega), nI_1]
theorem c_get {N s rn i : Nat} {arr : Nat → Int32} (h : i < rn) (hr : rn ≤ 200) : fX0_get N (nI s) rn arr (nI i) = some (arr i) := by
  unfold fX0_get
  rw [gin_ok h (by omega), nI_j (by omega)]
theorem nI_m1 {d i : Nat} (h : i < d) : (nI d - 1) - nI i = nI (d - 1 - i) := by
  cases d with
  | zero => omega
  | succ m => rw [nI_pred, nI_sub (by omega)]; rfl
theorem c_latest {N s rn i : Nat} {arr : Nat → Int32} (h : i < s) (hs : s ≤ rn) (hr : rn ≤ 200) : fX0_latest N (nI s) rn arr (nI i) = some (arr (s - 1 - i)) := by
  unfold fX0_latest
  rw [nI_m1 h, gin_ok (by omega) (by omega), nI_j (by omega)]
theorem c_drop {N s p : Nat} {arr : Nat → Int32} (hp : p ≤ s) (hs : s ≤ 30) (hN : 40 ≤ N) : ∃ arr', fX0_dropFirst N (nI s) 30 arr (nI p) = some (arr', nI (s - p)) ∧ ∀ j, j < s - p → arr' j = arr (p + j) := by
  unfold fX0_dropFirst
  obtain ⟨x, y, ⟨h1, h2, h3, h4⟩, e⟩ := it3_inv (n := s) (F := (fun (g2_4 : Int32 → (Nat → Int32) → Int32 → Option ((Nat → Int32) × Int32)) (x1 : Int32) (w2 : Nat → Int32) (w3 : Int32) => (if w3 ≤ x1 then some (w2, w3 - nI p) else gin x1 30 (gin (x1 - nI p) 30 (g2_4 (x1 + 1) (upd w2 (x1 - nI p).toNatClampNeg (w2 x1.toNatClampNeg)) w3))))) (fun i w2 w3 => w3 = nI s ∧ p ≤ i ∧ (∀ j, j < i - p → w2 j = arr (p + j)) ∧ ∀ j, i - p ≤ j → w2 j = arr j) (fun w2 w3 => some (w2, w3 - nI p)) (by
      intro g w2 w3 hX
      show (if w3 ≤ nI s then _ else _) = _
      rw [hX.1, if_pos (nI_le (Nat.le_refl s) (by omega))]) (by
      intro g i w2 w3 hi ⟨h1, h2, h3, h4⟩
      show ∃ x y, _ ∧ (if w3 ≤ nI i then _ else _) = _
      rw [h1, if_neg (nI_gt hi (by omega)), nI_sub h2, gin_ok (by omega) (by omega), gin_ok (by omega) (by omega), nI_j (by omega), nI_j (by omega), nI_1]
      refine ⟨_, _, ⟨rfl, by omega, fun j hj => ?_, fun j hj => ?_⟩, rfl⟩
      · by_cases q : j = i - p
        · rw [q, upd_s, h4 i (by omega)]
          congr 1; omega
        · rw [upd_o q, h3 j (by omega)]
      · rw [upd_o (by omega), h4 j (by omega)]) N p arr (nI s) hp (by omega) ⟨rfl, Nat.le_refl _, fun j hj => by omega, fun j _ => rfl⟩
  rw [e]
  exact ⟨x, by rw [h1, nI_sub hp], fun j hj => h3 j hj⟩
theorem c_cnt {N s rn : Nat} {arr : Nat → Int32} {v : Int32} (hs : s ≤ rn) (hr : rn ≤ 200) (hN : 300 ≤ N) : fX0_count N (nI s) rn arr v = some (nI (ctN (fun i => decide (arr i = v)) s)) := by
  unfold fX0_count
  refine it2_go (n := s) (fun i X => X = nI (ctN (fun i => decide (arr i = v)) i)) (fun X => some X) ?_ ?_ rfl (by omega) (fun y hy => by rw [hy])
  · intro f X hX
    show (if nI s ≤ nI s then _ else _) = _
    rw [if_pos (nI_le (Nat.le_refl s) (by omega))]
  · intro f' i X hi hX
    show ∃ y, _ ∧ (if nI s ≤ nI i then _ else _) = _
    rw [if_neg (nI_gt hi (by omega)), gin_ok (by omega) (by omega), nI_j (by omega), nI_1]
    refine ⟨_, rfl, ?_⟩
    rw [ctN]
    by_cases q : arr i = v
    · simp [q, hX, nI_1]
    · simp [q, hX]
theorem m_cnt {s : Nat} {N : Nat} {arr : Nat → Int32} {v y : Int32} (hs : s ≤ 200) (hN : 300 ≤ N) :
    it2 (fun (g14_7 : Int32 → Int32 → Option (Int32 × Int32)) (x5 : Int32) (x6 : Int32) => (if nI s ≤ x5 then some (x6, y) else gin x5 200 ((if (arr x5.toNatClampNeg) = v then g14_7 (x5 + 1) (x6 + 1) else g14_7 (x5 + 1) (x6 + 0))))) N 0 0 = some (nI (ctN (fun i => decide (arr i = v)) s), y) := by
  refine it2_go (n := s) (fun i X => X = nI (ctN (fun i => decide (arr i = v)) i)) (fun X => some (X, y)) ?_ ?_ rfl (by omega) (fun y hy => by rw [hy])
  · intro f X hX
    show (if nI s ≤ nI s then _ else _) = _
    rw [if_pos (nI_le (Nat.le_refl s) (by omega))]
  · intro f' i X hi hX
    show ∃ y, _ ∧ (if nI s ≤ nI i then _ else _) = _
    rw [if_neg (nI_gt hi (by omega)), gin_ok (by omega) (by omega), nI_j (by omega), nI_1]
    refine ⟨_, rfl, ?_⟩
    rw [ctN]
    by_cases q : arr i = v
    · simp [q, hX, nI_1]
    · simp [q, hX]
/-! the pairs: what the law's call answers, what the reference answers -/
def OK1 (code v : Int32) (out' : Nat → Int64) : Prop := code = 0 → out' (0 : Int32).toNatClampNeg = v.toInt64
theorem updL0 {out : Nat → Int64} {x : Int64} : vp_updL out (0 : Int32).toNatClampNeg x (0 : Int32).toNatClampNeg = x := by unfold vp_updL; rw [if_pos rfl]
theorem RW_app {d : Nat} {f h : Nat → Int32} {x : Int32} (hR : RW n k d f h) (hx : ROW n k x) : RW n k (d + 1) (upd f d x) (upd h d x) := fun j hj => by
  by_cases q : j = d
  · rw [q, upd_s, upd_s]; exact ⟨rfl, hx⟩
  · rw [upd_o q, upd_o q]; exact hR j (by omega)
end ROWS

