/-- match -/
theorem bN_bit (c : Nat → Bool) (j : Nat) : ∀ n, (bN c n).testBit j = (decide (j < n) && c j)
  | 0 => by
    show (0 : Nat).testBit j = _
    rw [Nat.zero_testBit, decide_eq_false (by omega), Bool.false_and]
  | n + 1 => by
    have ih := bN_bit c j n
    show (if c n then bN c n ||| 2 ^ n else bN c n).testBit j = _
    cases hc : c n
    · rw [if_neg (by decide), ih]
      by_cases h : j = n
      · rw [h, hc, Bool.and_false, Bool.and_false]
      · congr 1
        rw [decide_eq_decide]; omega
    · rw [if_pos rfl, Nat.testBit_or, ih, Nat.testBit_two_pow]
      by_cases h : j = n
      · rw [h, hc, decide_eq_true rfl, Bool.or_true, decide_eq_true (Nat.lt_succ_self n)]; rfl
      · rw [decide_eq_false (show ¬ n = j from fun z => h z.symm), Bool.or_false]
        congr 1
        rw [decide_eq_decide]; omega
theorem co_bit : ∀ g, g < 64 → ∀ j, j < 6 → (63 - g).testBit j = !g.testBit j := by decide +kernel
theorem co_clr : ∀ g, g < 64 → ∀ j, j < 6 → 63 - clr g j = (63 - g) ||| 2 ^ j := by decide +kernel
theorem iter_c {α : Type} {f g : Nat → α → α} : ∀ n, (∀ k, k < n → ∀ a, f k a = g k a) → ∀ a, iter f n a = iter g n a
  | 0, _, a => (iter_0 f a).symm.trans (iter_0 g a)
  | n + 1, h, a => by rw [iter_s, iter_s, iter_c n (fun k hk => h k (by omega)) a, h n (by omega)]
theorem mOf_c {N : WS} {m m2 : Nat → Int32} {i bx g : Nat} (hg : g < 64) (h : ∀ g, g < 64 → m ((i + 1) * 64 + g) = m2 ((i + 1) * 64 + g)) : mOf N m i bx g = mOf N m2 i bx g := by
  unfold mOf
  rw [h g hg]
  exact iter_c 6 (fun k hk a => by unfold fMo mWth; rw [h _ (clr_lt g hg k (by omega))]) _
theorem wgR_at (N : WS) (i : Nat) (m : Nat → Int32) : ∀ k, k ≤ 64 → ∀ x, iter (fWg N i) k m x = if i * 64 ≤ x ∧ x < i * 64 + k then mOf N m i (bxs N i &&& (x - i * 64)) (x - i * 64) else m x
  | 0, _, x => by rw [if_neg (by omega)]; rfl
  | k + 1, hk, x => by
    have ih := wgR_at N i m k (by omega)
    rw [iter_s]
    unfold fWg
    by_cases hx : x = i * 64 + k
    · rw [hx, pk_us, if_pos (by omega), Nat.add_sub_cancel_left]
      refine mOf_c (by omega) (fun g hg => ?_)
      have := ih ((i + 1) * 64 + g)
      rw [if_neg (by omega)] at this
      exact this
    · rw [pk_un hx]
      have := ih x
      unfold fWg at this
      rw [this]
      by_cases hc : i * 64 ≤ x ∧ x < i * 64 + k
      · rw [if_pos hc, if_pos (by omega)]
      · rw [if_neg hc, if_neg (by omega)]
theorem lmB_c {N : WS} {m m2 : Nat → Int32} {i g : Nat} (hg : g < 64) (h : ∀ g, g < 64 → m (64 * i + 64 + g) = m2 (64 * i + 64 + g)) : lmB N m i g = lmB N m2 i g := by
  unfold lmB
  rw [h g hg]
  exact iter_c 6 (fun k hk a => by unfold fLb; rw [h _ (or_lt6 g hg k (by omega))]) _
theorem lmR_at (N : WS) (i : Nat) (m : Nat → Int32) : ∀ k, k ≤ 64 → ∀ x, iter (fLm N i) k m x = if 64 * i ≤ x ∧ x < 64 * i + k then lmB N m i (x - 64 * i) else m x
  | 0, _, x => by rw [if_neg (by omega)]; rfl
  | k + 1, hk, x => by
    have ih := lmR_at N i m k (by omega)
    rw [iter_s]
    unfold fLm
    by_cases hx : x = 64 * i + k
    · rw [hx, pk_us, if_pos (by omega), Nat.add_sub_cancel_left]
      refine lmB_c (by omega) (fun g hg => ?_)
      have := ih (64 * i + 64 + g)
      rw [if_neg (by omega)] at this
      exact this
    · rw [pk_un hx]
      have := ih x
      unfold fLm at this
      rw [this]
      by_cases hc : 64 * i ≤ x ∧ x < 64 * i + k
      · rw [if_pos hc, if_pos (by omega)]
      · rw [if_neg hc, if_neg (by omega)]
def mRow (i : Nat) (m m2 : Nat → Int32) : Prop := ∀ g, g < 64 → m (i * 64 + g) = m2 (64 * i + (63 - g))
theorem bxs_bit (N : WS) (i j : Nat) (hj : j < 6) : (bxs N i).testBit j = sLets N (nI j) (nI i) := by
  unfold bxs
  rw [bN_bit, decide_eq_true hj, Bool.true_and]
theorem row_1 {N : WS} {i : Nat} {m m2 : Nat → Int32} (h : mRow (i + 1) m m2) {g : Nat} (hg : g < 64) : mOf N m i (bxs N i &&& g) g = lmB N m2 i (63 - g) := by
  have h' : ∀ g, g < 64 → m ((i + 1) * 64 + g) = m2 (64 * i + 64 + (63 - g)) := fun g hg => by
    have := h g hg
    rw [show 64 * i + 64 + (63 - g) = 64 * (i + 1) + (63 - g) by omega]; exact this
  unfold mOf lmB
  rw [h' g hg]
  refine iter_c 6 (fun k hk a => ?_) _
  unfold fMo fLb mWth
  rw [Nat.testBit_and, bxs_bit N i k (by omega), co_bit g hg k (by omega), Bool.not_not, h' _ (clr_lt g hg k (by omega)), co_clr g hg k (by omega)]
  split
  · unfold imax mx2
    rw [ite_le]
  · rfl
theorem rows_all {N : WS} : ∀ (k : Nat) (m m2 : Nat → Int32), k ≤ 8 → (∀ i, k ≤ i → i ≤ 8 → mRow i m m2) → ∀ i, i ≤ 8 → mRow i (wgD N k m) (lmD N k m2)
  | 0, m, m2, _, h, i, hi => h i (Nat.zero_le i) hi
  | k + 1, m, m2, hk, h, i, hi => by
    rw [wgD, lmD]
    refine rows_all k _ _ (by omega) (fun j hj hj8 g hg => ?_) i hi
    have e1 := wgR_at N k m 64 (Nat.le_refl _) (j * 64 + g)
    have e2 := lmR_at N k m2 64 (Nat.le_refl _) (64 * j + (63 - g))
    unfold wgR lmR
    rw [e1, e2]
    by_cases hjk : j = k
    · subst hjk
      rw [if_pos (by omega), if_pos (by omega), Nat.add_sub_cancel_left, Nat.add_sub_cancel_left]
      exact row_1 (h (j + 1) (by omega) (by omega)) hg
    · rw [if_neg (by omega), if_neg (by omega)]
      exact h j (by omega) hj8 g hg
theorem wgD_hi {N : WS} : ∀ (k : Nat) (m : Nat → Int32) (x : Nat), k ≤ 8 → 512 ≤ x → wgD N k m x = m x
  | 0, m, x, _, _ => rfl
  | k + 1, m, x, hk, hx => by
    rw [wgD, wgD_hi k _ x (by omega) hx]
    unfold wgR
    rw [wgR_at N k m 64 (Nat.le_refl _) x, if_neg (by omega)]
theorem lmD_hi {N : WS} : ∀ (k : Nat) (m : Nat → Int32) (x : Nat), k ≤ 8 → 512 ≤ x → lmD N k m x = m x
  | 0, m, x, _, _ => rfl
  | k + 1, m, x, hk, hx => by
    rw [lmD, lmD_hi k _ x (by omega) hx]
    unfold lmR
    rw [lmR_at N k m 64 (Nat.le_refl _) x, if_neg (by omega)]
def MZ (m : Nat → Int32) : Prop := ∀ x, 512 ≤ x → x < 576 → m x = 0
theorem MZ.wg {N : WS} {m : Nat → Int32} (h : MZ m) : MZ (wgD N 8 m) := fun x h1 h2 => by rw [wgD_hi 8 m x (Nat.le_refl 8) h1]; exact h x h1 h2
theorem MZ.lm {N : WS} {m : Nat → Int32} (h : MZ m) : MZ (lmD N 8 m) := fun x h1 h2 => by rw [lmD_hi 8 m x (Nat.le_refl 8) h1]; exact h x h1 h2
theorem rows_8 {N : WS} {m m2 : Nat → Int32} (h : MZ m) (h2 : MZ m2) : ∀ i, i ≤ 8 → mRow i (wgD N 8 m) (lmD N 8 m2) :=
  rows_all 8 m m2 (Nat.le_refl 8) (fun i h8 h9 g hg => by
    have : i = 8 := by omega
    subst this
    rw [h _ (by omega) (by omega), h2 _ (by omega) (by omega)])
theorem pick_eqm {N : WS} {m m2 : Nat → Int32} (h : ∀ i, i ≤ 8 → mRow i m m2) {i f : Nat} (hi : i < 8) (hf : f < 64) : lbb N m i f = lbGo (lbM N m2 i (63 - f)) 6 0 := by
  unfold lbb
  refine lb_congr 6 0 (fun x _ hx => ?_)
  unfold lbF lbM mWth
  have e1 := h (i + 1) (by omega) (clr f x) (clr_lt f hf x (by omega))
  have e2 := h i (by omega) f hf
  rw [Nat.testBit_and, bxs_bit N i x (by omega), co_bit f hf x (by omega), Bool.not_not, e1, e2, co_clr f hf x (by omega), show 64 * (i + 1) = 64 * i + 64 by omega]
theorem free_eq {N : WS} {m m2 : Nat → Int32} (h : ∀ i, i ≤ 8 → mRow i m m2) : ∀ i, i ≤ 8 → mmT N m2 i = 63 - bxF N m i
  | 0, _ => rfl
  | i + 1, hi => by
    have ih := free_eq (N := N) h i (by omega)
    have hf := bxF_lt N m i
    rw [mmT, bxF, ih, ← pick_eqm h (by omega) hf]
    by_cases h6 : lbb N m i (bxF N m i) = -6
    · rw [if_pos h6, if_pos h6]
    · rw [if_neg h6, if_neg h6]
      rcases lb_rng (c := lbF N m i (bxF N m i)) 6 0 (Nat.le_refl 6) with z | ⟨j, hj, z⟩
      · exact absurd z h6
      · have z' : lbb N m i (bxF N m i) = nI j := z
        rw [z', cl8 (by omega), co_clr _ hf j hj]
theorem match_a {N : WS} {m m2 : Nat → Int32} (h : MZ m) (h2 : MZ m2) {w : Nat} (hw : w < 8) (hv : sLiv N (nI w) = true) : cMat N m (nI w) = mmF N (lmD N 8 m2) (w + 1) ∧ cMaM N m (nI w) = wgD N 8 m := by
  have hr := rows_8 (N := N) h h2
  unfold cMat cMaM
  rw [if_neg (nI_nm1 (by omega)), if_pos hv, if_neg (nI_nm1 (by omega)), if_pos hv, cl8 (by omega)]
  refine ⟨?_, rfl⟩
  rw [bxB, mmF, pick_eqm hr hw (bxF_lt _ _ _), free_eq hr w (by omega)]
theorem match_1 {N : WS} {m m2 : Nat → Int32} (h : MZ m) (h2 : MZ m2) : cMat N m (-1) = lmD N 8 m2 0 ∧ cMaM N m (-1) = wgD N 8 m := by
  have hr := rows_8 (N := N) h h2 0 (by decide) 63 (by decide)
  unfold cMat cMaM
  rw [if_pos rfl, if_pos rfl]
  exact ⟨hr, rfl⟩
theorem match_r {N : WS} {m : Nat → Int32} {s : Int32} (h1 : ¬ s = -1) (hv : sLiv N s = false) : cMat N m s = -1 ∧ cMaM N m s = m := by
  unfold cMat cMaM
  rw [if_neg h1, if_neg h1, hv]
  exact ⟨rfl, rfl⟩
