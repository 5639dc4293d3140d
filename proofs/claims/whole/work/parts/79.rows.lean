/-! rows of acts -/
def ROW (n k : Nat) (x : Int32) : Prop := ∃ q w, ACT n k q w ∧ x = nI (100 * q + w)
def RW (n k d : Nat) (f h : Nat → Int32) : Prop := ∀ j, j < d → f j = h j ∧ ROW n k (f j)
def OPX (x : Int32) : Int32 := if ((x / 100) - (x / 100) / 2 * 2) = 0 then x + 100 else x - 100
theorem m_oppX {N : Nat} {x : Int32} : fX5_opposite N x = some (OPX x) := by
  unfold fX5_opposite OPX
  split <;> rfl
theorem OPX_a {q w : Nat} (hq : q ≤ 5) (hw : w < 32) : OPX (nI (100 * q + w)) = nI (100 * opp q + w) := Option.some.inj ((m_oppX (N := 0)).symm.trans (m_opp hq hw))
section ROWS
variable {n k : Nat} {a b : Nat → Nat}
theorem c_oppX {N : Nat} {x : Int32} (hG : GR n k a b) (h : ROW n k x) : fX4_oppositeOf N x = some (OPX x) ∧ ROW n k (OPX x) := by
  obtain ⟨q, w, hA, rfl⟩ := h
  rw [OPX_a hA.1 (hA.w32 hG), c_opp hA.1 (hA.w32 hG)]
  exact ⟨rfl, _, _, hA.op, rfl⟩
theorem nI_sub {i p : Nat} (h : p ≤ i) : nI i - nI p = nI (i - p) := by
  have : nI i = nI (i - p) + nI p := by rw [nI_add, Nat.sub_add_cancel h]
  rw [this, Int32.add_sub_cancel]
theorem upd_s {f : Nat → Int32} {j : Nat} {x : Int32} : upd f j x j = x := by unfold upd; rw [if_pos rfl]
theorem upd_o {f : Nat → Int32} {j i : Nat} {x : Int32} (h : ¬ i = j) : upd f j x i = f i := by unfold upd; rw [if_neg h]
theorem c_append {N s rn : Nat} {arr : Nat → Int32} {v : Int32} (h : s < rn) (hr : rn ≤ 200) : fX0_append N (nI s) rn arr v = some (upd arr s v, nI (s + 1)) := by
  unfold fX0_append
  rw [gin_ok h (by omega), nI_j (by omega), nI_1]
theorem c_get {N s rn i : Nat} {arr : Nat → Int32} (h : i < rn) (hr : rn ≤ 200) : fX0_get N (nI s) rn arr (nI i) = some (arr i) := by
  unfold fX0_get
  rw [gin_ok h (by omega), nI_j (by omega)]
theorem nI_m1 {d i : Nat} (h : i < d) : (nI d - 1) - nI i = nI (d - 1 - i) := by
  cases d with
  | zero => omega
  | succ m => rw [nI_pred, nI_sub (by omega)]; rfl
theorem c_latest {N s rn i : Nat} {arr : Nat → Int32} (h : i < s) (hs : s ≤ rn) (hr : rn ≤ 200) : fX0_latest N (nI s) rn arr (nI i) = some (arr (s - 1 - i)) := by
  unfold fX0_latest
  rw [nI_m1 h, gin_ok (by omega) (by omega), nI_j (by omega)]
theorem c_drop {N s p : Nat} {arr : Nat → Int32} (hp : p ≤ s) (hs : s ≤ 30) (hN : 40 ≤ N) : ∃ arr', fX0_dropFirst N (nI s) 30 arr (nI p) = some (arr', nI (s - p)) ∧ ∀ j, j < s - p → arr' j = arr (p + j) := by
  unfold fX0_dropFirst
  obtain ⟨x, y, ⟨h1, h2, h3, h4⟩, e⟩ := it3_inv (n := s) (F := (fun (g2_4 : Int32 → (Nat → Int32) → Int32 → Option ((Nat → Int32) × Int32)) (x1 : Int32) (w2 : Nat → Int32) (w3 : Int32) => (if w3 ≤ x1 then some (w2, w3 - nI p) else gin x1 30 (gin (x1 - nI p) 30 (g2_4 (x1 + 1) (upd w2 (x1 - nI p).toNatClampNeg (w2 x1.toNatClampNeg)) w3))))) (fun i w2 w3 => w3 = nI s ∧ p ≤ i ∧ (∀ j, j < i - p → w2 j = arr (p + j)) ∧ ∀ j, i - p ≤ j → w2 j = arr j) (fun w2 w3 => some (w2, w3 - nI p)) (by
      intro g w2 w3 hX
      show (if w3 ≤ nI s then _ else _) = _
      rw [hX.1, if_pos (nI_le (Nat.le_refl s) (by omega))]) (by
      intro g i w2 w3 hi ⟨h1, h2, h3, h4⟩
      show ∃ x y, _ ∧ (if w3 ≤ nI i then _ else _) = _
      rw [h1, if_neg (nI_gt hi (by omega)), nI_sub h2, gin_ok (by omega) (by omega), gin_ok (by omega) (by omega), nI_j (by omega), nI_j (by omega), nI_1]
      refine ⟨_, _, ⟨rfl, by omega, fun j hj => ?_, fun j hj => ?_⟩, rfl⟩
      · by_cases q : j = i - p
        · rw [q, upd_s, h4 i (by omega)]
          congr 1; omega
        · rw [upd_o q, h3 j (by omega)]
      · rw [upd_o (by omega), h4 j (by omega)]) N p arr (nI s) hp (by omega) ⟨rfl, Nat.le_refl _, fun j hj => by omega, fun j _ => rfl⟩
  rw [e]
  exact ⟨x, by rw [h1, nI_sub hp], fun j hj => h3 j hj⟩
theorem c_cnt {N s rn : Nat} {arr : Nat → Int32} {v : Int32} (hs : s ≤ rn) (hr : rn ≤ 200) (hN : 300 ≤ N) : fX0_count N (nI s) rn arr v = some (nI (ctN (fun i => decide (arr i = v)) s)) := by
  unfold fX0_count
  refine it2_go (n := s) (fun i X => X = nI (ctN (fun i => decide (arr i = v)) i)) (fun X => some X) ?_ ?_ rfl (by omega) (fun y hy => by rw [hy])
  · intro f X hX
    show (if nI s ≤ nI s then _ else _) = _
    rw [if_pos (nI_le (Nat.le_refl s) (by omega))]
  · intro f' i X hi hX
    show ∃ y, _ ∧ (if nI s ≤ nI i then _ else _) = _
    rw [if_neg (nI_gt hi (by omega)), gin_ok (by omega) (by omega), nI_j (by omega), nI_1]
    refine ⟨_, rfl, ?_⟩
    rw [ctN]
    by_cases q : arr i = v
    · simp [q, hX, nI_1]
    · simp [q, hX]
theorem m_cnt {s : Nat} {N : Nat} {arr : Nat → Int32} {v y : Int32} (hs : s ≤ 200) (hN : 300 ≤ N) :
    it2 (fun (g14_7 : Int32 → Int32 → Option (Int32 × Int32)) (x5 : Int32) (x6 : Int32) => (if nI s ≤ x5 then some (x6, y) else gin x5 200 ((if (arr x5.toNatClampNeg) = v then g14_7 (x5 + 1) (x6 + 1) else g14_7 (x5 + 1) (x6 + 0))))) N 0 0 = some (nI (ctN (fun i => decide (arr i = v)) s), y) := by
  refine it2_go (n := s) (fun i X => X = nI (ctN (fun i => decide (arr i = v)) i)) (fun X => some (X, y)) ?_ ?_ rfl (by omega) (fun y hy => by rw [hy])
  · intro f X hX
    show (if nI s ≤ nI s then _ else _) = _
    rw [if_pos (nI_le (Nat.le_refl s) (by omega))]
  · intro f' i X hi hX
    show ∃ y, _ ∧ (if nI s ≤ nI i then _ else _) = _
    rw [if_neg (nI_gt hi (by omega)), gin_ok (by omega) (by omega), nI_j (by omega), nI_1]
    refine ⟨_, rfl, ?_⟩
    rw [ctN]
    by_cases q : arr i = v
    · simp [q, hX, nI_1]
    · simp [q, hX]
/-! the pairs: what the law's call answers, what the reference answers -/
def OK1 (code v : Int32) (out' : Nat → Int64) : Prop := code = 0 → out' (0 : Int32).toNatClampNeg = v.toInt64
theorem updL0 {out : Nat → Int64} {x : Int64} : vp_updL out (0 : Int32).toNatClampNeg x (0 : Int32).toNatClampNeg = x := by unfold vp_updL; rw [if_pos rfl]
theorem op_erase {N r : Nat} {rac : Nat → Int32} {th nd sw so lo cl ea on lg pe : Int32} (hr : r ≤ 30) (hN : 40 ≤ N) : ∃ rac', fX4_erase N (nI r) rac = some (nI r, nI 0, rac') ∧ fX5_erase N th nd sw so lo cl ea on lg (nI r) pe = some (nI r, 0, nI 0) := by
  obtain ⟨rac', e, _⟩ := c_drop (arr := rac) (Nat.le_refl r) hr hN
  refine ⟨rac', ?_, rfl⟩
  unfold fX4_erase fX0_size
  rw [bd1_ok, e, bd2_ok, Nat.sub_self]
theorem op_logged {N d : Nat} {dac log : Nat → Int32} {p : Int32} {out : Nat → Int64} {th nd sw so lo cl ea on wr pe : Int32} (hd : d ≤ 200) (hRW : RW n k d dac log) :
    ∃ code v out', fL_logged N (nI d) dac out p = some (code, out') ∧ fX5_logged N th nd sw so lo cl ea on (nI d) wr pe log p = some (v, code) ∧ OK1 code v out' := by
  unfold fL_logged fX4_logged fX5_logged fX0_size
  rw [m_in (by omega), bd1_ok, bd1_ok]
  simp only [jn1]
  rcases nin_c p d (by omega) with ⟨h, h1, h2⟩ | ⟨h, h1⟩ | ⟨h, h1, h2⟩
  · obtain ⟨j, hj, rfl⟩ := id h
    rw [if_neg h1, if_pos (nI_lt hj (by omega)), if_neg (fun z => bI_z.mp z h), if_pos (by decide), c_latest hj hd (Nat.le_refl _), bd1_ok, nI_m1 hj, gin_ok (by omega) (by omega), nI_j (by omega)]
    refine ⟨_, _, _, rfl, rfl, fun _ => ?_⟩
    rw [updL0, (hRW _ (by omega)).1]
  · rw [if_pos h1, if_pos (bI_z.mpr h), if_neg (by decide)]
    exact ⟨1, _, out, by simp [bh1], rfl, fun z => absurd z (by decide)⟩
  · rw [if_neg h1, if_neg (fun z => by
      obtain ⟨j, hj, e⟩ := nI_of h1
      rw [e] at z h2
      have := (nI_ltI hj (by omega)).mp z
      have := (nI_leI (by omega) hj).mp h2
      omega), if_pos (bI_z.mpr h), if_neg (by decide)]
    exact ⟨1, _, out, by simp [bh1], rfl, fun z => absurd z (by decide)⟩
theorem op_times {N d : Nat} {br so lo th so' lo' cl ea on wr pe p0 p1 : Int32} {dac log : Nat → Int32} {out : Nat → Int64} (hG : GR n k a b) (hd : d ≤ 200) (hRW : RW n k d dac log) (hN : 300 ≤ N) :
    ∃ code v out', fL_times N (nI n) (nI k) br so lo (nI d) dac out p0 p1 = some (code, out') ∧ fX5_times N th (nI n) (nI k) so' lo' cl ea on (nI d) wr pe log p0 p1 = some (v, code) ∧ OK1 code v out' := by
  unfold fL_times fX4_times fX5_times
  rcases ask2 (N := N) (br := br) (so := so) (lo := lo) (th := th) (so' := so') (lo' := lo') (cl := cl) (ea := ea) (on := on) (lg := nI d) (wr := wr) (pe := pe) (p0 := p0) (p1 := p1) hG.1 hG.2.1 with ⟨q, w, hA, rfl, rfl, e1, e2⟩ | ⟨e1, e2⟩ | ⟨e1, e2⟩
  · have hw := hA.w32 hG
    rw [e1, e2, bd2_ok, c_actOf hA.1 hw, bd1_ok, c_cnt hd (Nat.le_refl _) hN, bd1_ok, if_neg (by decide), m_cnt hd hN]
    refine ⟨_, _, _, rfl, rfl, fun _ => ?_⟩
    rw [updL0, a_of q (by have := hA.1; omega) w hw, ctN_c (q := fun i => decide (log i = nI (100 * q + w))) d (fun i hi => by rw [(hRW i hi).1])]
  · rw [e1, e2]
    exact ⟨1, _, out, by simp [bh1, bx0], rfl, fun z => absurd z (by decide)⟩
  · rw [e1, e2]
    exact ⟨2, _, out, by simp [bh1, bx0], rfl, fun z => absurd z (by decide)⟩
theorem RW_app {d : Nat} {f h : Nat → Int32} {x : Int32} (hR : RW n k d f h) (hx : ROW n k x) : RW n k (d + 1) (upd f d x) (upd h d x) := fun j hj => by
  by_cases q : j = d
  · rw [q, upd_s, upd_s]; exact ⟨rfl, hx⟩
  · rw [upd_o q, upd_o q]; exact hR j (by omega)
theorem op_write {N r : Nat} {br so lo th so' lo' cl ea on lg pe p0 p1 : Int32} {rac seq : Nat → Int32} {out : Nat → Int64} (hG : GR n k a b) (hr : r ≤ 30) (hRW : RW n k r rac seq) (hN : 40 ≤ N) :
    ∃ code v out' r' rac' seq', fL_write N (nI n) (nI k) br so lo (nI r) rac out p0 p1 = some (code, nI r', rac', out') ∧ fX5_write N th (nI n) (nI k) so' lo' cl ea on lg (nI r) pe seq p0 p1 = some (v, code, nI r', seq') ∧ OK1 code v out' ∧ r' ≤ 30 ∧ RW n k r' rac' seq' := by
  unfold fL_write fX4_write fX5_write fX0_size
  simp only [jn3]
  rcases ask2 (N := N) (br := br) (so := so) (lo := lo) (th := th) (so' := so') (lo' := lo') (cl := cl) (ea := ea) (on := on) (lg := lg) (wr := nI r) (pe := pe) (p0 := p0) (p1 := p1) hG.1 hG.2.1 with ⟨q, w, hA, rfl, rfl, e1, e2⟩ | ⟨e1, e2⟩ | ⟨e1, e2⟩
  · have hw := hA.w32 hG
    rw [e1, e2, bd2_ok, c_actOf hA.1 hw, bd1_ok, bd1_ok, if_neg (show ¬ (1 : Int32) = 0 by decide)]
    have e30 : nI r = 30 ↔ r = 30 := nI_eq (b := 30) (by omega) (by omega)
    have l30 : nI r < 30 ↔ r < 30 := nI_ltI (b := 30) (by omega) (by omega)
    by_cases h30 : r = 30
    · rw [if_pos (e30.mpr h30), if_neg (fun z => by have := l30.mp z; omega), if_neg (show ¬ (3 : Int32) ≤ 0 by decide)]
      exact ⟨3, _, out, r, rac, _, by simp [bh3, bx0], rfl, fun z => absurd z (by decide), hr, hRW⟩
    · rw [if_neg (fun z => h30 (e30.mp z)), if_pos (l30.mpr (by omega)), if_pos (show (0 : Int32) ≤ 0 by decide), c_append (by omega) (by omega), gin_ok (by omega) (by omega), nI_j (by omega), nI_1, a_of q (by have := hA.1; omega) w hw]
      refine ⟨_, _, _, r + 1, _, _, rfl, rfl, fun _ => by rw [updL0], by omega, RW_app hRW ⟨q, w, hA, rfl⟩⟩
  · rw [e1, e2]
    exact ⟨1, _, out, r, rac, _, by simp [bh3, bx0], rfl, fun z => absurd z (by decide), hr, hRW⟩
  · rw [e1, e2]
    exact ⟨2, _, out, r, rac, _, by simp [bh3, bx0], rfl, fun z => absurd z (by decide), hr, hRW⟩
theorem op_writeBack {N d r : Nat} {th nd sw so lo cl ea on pe : Int32} {dac log rac seq : Nat → Int32} (hG : GR n k a b) (hd : d ≤ 200) (hr : r ≤ 30) (hRW : RW n k d dac log) (hN : 40 ≤ N) :
    ∃ r' rac' seq', fX4_writeBack N (nI d) dac (nI r) rac = some (nI r', nI r', rac') ∧ fX5_writeBack N th nd sw so lo cl ea on (nI d) (nI r) pe log seq = some (nI r', 0, nI r', seq') ∧ r' ≤ 30 ∧ RW n k r' rac' seq' := by
  obtain ⟨rac1, e1, _⟩ := c_drop (arr := rac) (Nat.le_refl r) hr hN
  unfold fX4_writeBack fX5_writeBack fX0_size
  simp only [jn1]
  rw [bd1_ok, bd1_ok, e1, bd2_ok, Nat.sub_self]
  have w1 : (if (30 : Int32) < nI d then (30 : Int32) else nI d) = nI (min d 30) := by
    by_cases h : 30 < d
    · rw [if_pos (show (30 : Int32) < nI d from nI_lt (a := 30) h (by omega)), Nat.min_eq_right (by omega)]; rfl
    · rw [if_neg (show ¬ (30 : Int32) < nI d from nI_nlt (a := 30) (by omega) (by omega)), Nat.min_eq_left (by omega)]
  rw [w1]
  have hm : min d 30 ≤ d ∧ min d 30 ≤ 30 := ⟨Nat.min_le_left _ _, Nat.min_le_right _ _⟩
  generalize hW : min d 30 = W at *
  obtain ⟨x, y, ⟨h1, h2⟩, e⟩ := it3_inv (n := W) (F := (fun (g29_11 : Int32 → Int32 → (Nat → Int32) → Option (Int32 × Int32 × (Nat → Int32))) (x8 : Int32) (w9 : Int32) (w10 : Nat → Int32) => (if nI W ≤ x8 then some (nI W, w9, w10) else bd1 (fX0_latest N (nI d) 200 dac x8) (fun (v14 : Int32) => bd1 (fX4_oppositeOf N v14) (fun (v16 : Int32) => bd2 (fX0_append N w9 30 w10 v16) (fun (w19 : Nat → Int32) (w20 : Int32) => g29_11 (x8 + 1) w20 w19)))))) (fun i w9 w10 => w9 = nI i ∧ ∀ j, j < i → w10 j = OPX (dac (d - 1 - j))) (fun w9 w10 => some (nI W, w9, w10)) (by
      intro g x y hX
      show (if nI W ≤ nI W then _ else _) = _
      rw [if_pos (nI_le (Nat.le_refl W) (by omega))]) (by
      intro g i x y hi hX
      show ∃ x' y', _ ∧ (if nI W ≤ nI i then _ else _) = _
      rw [if_neg (nI_gt hi (by omega)), c_latest (by omega) hd (Nat.le_refl _), bd1_ok, (c_oppX hG (hRW _ (by omega)).2).1, bd1_ok, hX.1, c_append (by omega) (by omega), bd2_ok, nI_1]
      refine ⟨_, _, ⟨rfl, fun j hj => ?_⟩, rfl⟩
      by_cases q : j = i
      · rw [q, upd_s]
      · rw [upd_o q, hX.2 j (by omega)]) N 0 (nI 0) rac1 (Nat.zero_le _) (by omega) ⟨rfl, fun j hj => absurd hj (Nat.not_lt_zero j)⟩
  rw [nI_0] at e
  rw [nI_0, e, h1]
  have key : ∃ seq', it4 (fun (g29_8 : Int32 → Int32 → Int32 → (Nat → Int32) → Option (Int32 × Int32 × Int32 × (Nat → Int32))) (x4 : Int32) (w5 : Int32) (w6 : Int32) (w7 : Nat → Int32) => (if w6 ≤ x4 then some (w6, w5, w6, w7) else gin ((nI d - 1) - x4) 200 (bd1 (fX5_opposite N (log ((nI d - 1) - x4).toNatClampNeg)) (fun (v12 : Int32) => gin x4 30 (g29_8 (x4 + 1) w5 w6 (upd w7 x4.toNatClampNeg v12)))))) N 0 0 (nI W) seq = some (nI W, 0, nI W, seq') ∧ ∀ j, j < W → seq' j = OPX (log (d - 1 - j)) := by
    generalize hF : (fun (g29_8 : Int32 → Int32 → Int32 → (Nat → Int32) → Option (Int32 × Int32 × Int32 × (Nat → Int32))) (x4 : Int32) (w5 : Int32) (w6 : Int32) (w7 : Nat → Int32) => _) = F
    have lp : ∀ M i f, i ≤ W → W - i < M → (∀ j, j < i → f j = OPX (log (d - 1 - j))) → ∃ seq', it4 F M (nI i) 0 (nI W) f = some (nI W, 0, nI W, seq') ∧ ∀ j, j < W → seq' j = OPX (log (d - 1 - j)) := by
      intro M
      induction M with
      | zero => intro i f _ h; exact absurd h (Nat.not_lt_zero _)
      | succ M ih =>
        intro i f hi hM hf
        rw [it4, ← hF]
        show ∃ seq', (if nI W ≤ nI i then _ else _) = _ ∧ _
        rcases Nat.lt_or_ge i W with q | q
        · rw [if_neg (nI_gt q (by omega)), nI_m1 (by omega), gin_ok (by omega) (by omega), nI_j (by omega), m_oppX, bd1_ok, gin_ok (by omega) (by omega), nI_j (by omega), nI_1, hF]
          refine ih (i + 1) _ q (by omega) (fun j hj => ?_)
          by_cases z : j = i
          · rw [z, upd_s]
          · rw [upd_o z, hf j (by omega)]
        · have : i = W := by omega
          subst this
          rw [if_pos (nI_le (Nat.le_refl _) (by omega))]
          exact ⟨f, rfl, hf⟩
    exact lp N 0 seq (Nat.zero_le _) (by omega) (fun j hj => absurd hj (Nat.not_lt_zero j))
  obtain ⟨seq', e3, h3⟩ := key
  have w2 : ∀ {α : Type} (f : Int32 → α), (if (30 : Int32) ≤ nI d then f 30 else f (nI d)) = f (nI W) := fun f => by
    by_cases h : 30 ≤ d
    · rw [if_pos (show (30 : Int32) ≤ nI d from nI_le (a := 30) h (by omega)), ← hW, Nat.min_eq_right h]; rfl
    · rw [if_neg (show ¬ (30 : Int32) ≤ nI d from nI_ge (b := 30) (by omega) (by omega)), ← hW, Nat.min_eq_left (by omega)]
  refine ⟨W, y, seq', rfl, ?_, hm.2, fun j hj => ?_⟩
  · rw [← e3]
    exact w2 (fun z => it4 _ N 0 0 z seq)
  · have := hRW (d - 1 - j) (by omega)
    rw [h2 j hj, h3 j hj, this.1]
    exact ⟨rfl, this.1 ▸ (c_oppX (N := N) hG this.2).2⟩
end ROWS
