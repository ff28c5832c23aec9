/-- chance -/
theorem gcd_half {r b : Nat} (h0 : 0 < r) (h : r < b) : 2 * (b % r) < b := by
  have h1 := Nat.mod_lt b h0
  have h2 := Nat.div_add_mod b r
  have h3 : 1 ≤ b / r := (Nat.one_le_div_iff h0).mpr (by omega)
  have h4 : r * 1 ≤ r * (b / r) := Nat.mul_le_mul_left r h3
  omega
theorem lN_z {b : Nat} (hb : b < 2 ^ 63) : (lN b = 0) ↔ b = 0 := pk_lEQ hb (by decide : (0 : Nat) < 2 ^ 63)
theorem gcd_go : ∀ (k n a b : Nat), 2 * k + 1 ≤ n → b < 2 ^ k → a < 2 ^ 63 → b < 2 ^ 63 → gcdGo n (lN a) (lN b) = lN (Nat.gcd a b)
  | 0, n, a, b, hn, hb, ha, hb2 => by
    obtain ⟨n, rfl⟩ : ∃ q, n = q + 1 := ⟨n - 1, by omega⟩
    have h0 : b = 0 := by omega
    rw [gcdGo, if_pos ((lN_z hb2).mpr h0), h0, Nat.gcd_zero_right]
  | k + 1, n, a, b, hn, hb, ha, hb2 => by
    obtain ⟨n, rfl⟩ : ∃ q, n = q + 2 := ⟨n - 2, by omega⟩
    rw [gcdGo]
    by_cases h0 : b = 0
    · rw [if_pos ((lN_z hb2).mpr h0), h0, Nat.gcd_zero_right]
    · rw [if_neg (fun z => h0 ((lN_z hb2).mp z))]
      have e1 : lrm (lN a) (lN b) = lN (a % b) := pk_lRem ha (by omega) hb2
      have hr : a % b < b := Nat.mod_lt _ (by omega)
      rw [e1, gcdGo]
      by_cases h1 : a % b = 0
      · rw [if_pos ((lN_z (by omega)).mpr h1)]
        rw [show Nat.gcd a b = Nat.gcd b (a % b) by rw [Nat.gcd_comm a b, Nat.gcd_rec, Nat.gcd_comm], h1, Nat.gcd_zero_right]
      · rw [if_neg (fun z => h1 ((lN_z (by omega)).mp z))]
        have e2 : lrm (lN b) (lN (a % b)) = lN (b % (a % b)) := pk_lRem hb2 (by omega) (by omega)
        have h2 := gcd_half (show 0 < a % b by omega) hr
        have h3 : 2 ^ (k + 1) = 2 * 2 ^ k := by rw [Nat.pow_succ, Nat.mul_comm]
        rw [e2, gcd_go k n (a % b) (b % (a % b)) (by omega) (by omega) (by omega) (by omega)]
        congr 1
        rw [show Nat.gcd a b = Nat.gcd b (a % b) by rw [Nat.gcd_comm a b, Nat.gcd_rec, Nat.gcd_comm]]
        rw [show Nat.gcd b (a % b) = Nat.gcd (a % b) (b % (a % b)) by rw [Nat.gcd_comm b, Nat.gcd_rec, Nat.gcd_comm]]
def wkT (f n u k : Nat) : Int64 := wkC f k * lpow (lpow (nI u).toInt64 n) k * lpow (lpow 10 n - lpow (nI u).toInt64 n) (f - k)
def wkB (f n u k : Nat) : Bool := !decide (k ≤ f) || (!decide (wkT f n u k < 0) && decide (wkT f n u k < 576460752303423488))
theorem wkB_ok : ∀ n, n < 3 → ∀ u, u < 11 → ∀ f, f < 9 → ∀ k, k < 9 → wkB f n u k = true := by decide +kernel
theorem wkT_ok {n u f k : Nat} (hn : n < 3) (hu : u < 11) (hf : f < 9) (hk : k ≤ f) : ¬ wkT f n u k < 0 ∧ wkT f n u k < 576460752303423488 := by
  have h := wkB_ok n hn u hu f hf k (by omega)
  unfold wkB at h
  rw [decide_eq_true hk, Bool.not_true, Bool.false_or, Bool.and_eq_true, Bool.not_eq_true', decide_eq_false_iff_not, decide_eq_true_eq] at h
  exact h
theorem chL_ok : ∀ n, n < 3 → ∀ f, f < 9 → 0 < lpow (lpow 10 n) f := by decide +kernel
theorem wkW_ok {f n u : Nat} (hn : n < 3) (hu : u < 11) (hf : f < 9) (q : Int32) : ∀ k, k ≤ f + 1 → ∃ a, a ≤ k * 2 ^ 59 ∧ wkW f q (lpow (nI u).toInt64 n) (lpow 10 n - lpow (nI u).toInt64 n) k = lN a
  | 0, _ => ⟨0, by decide, rfl⟩
  | k + 1, hk => by
    obtain ⟨a, h1, h2⟩ := wkW_ok hn hu hf q k (by omega)
    obtain ⟨t1, t2⟩ := wkT_ok hn hu hf (show k ≤ f by omega)
    obtain ⟨v, v1, v2⟩ := pk_lOf t1
    rw [v2, show (576460752303423488 : Int64) = lN (2 ^ 59) from rfl, pk_lLT v1 (by decide)] at t2
    unfold wkW at h2 ⊢
    rw [iter_s, h2]
    split
    · refine ⟨a + v, by omega, ?_⟩
      rw [show wkC f k * lpow (lpow (nI u).toInt64 n) k * lpow (lpow 10 n - lpow (nI u).toInt64 n) (f - k) = wkT f n u k from rfl, v2, lN_add]
    · exact ⟨a, Nat.le_trans h1 (Nat.mul_le_mul_right _ (Nat.le_succ k)), rfl⟩
theorem chance_eq {N : WS} (hN : NOk N) {s x n u : Nat} {p : Int32} (hs : s < 8) (hx : x < 6) (hv : sLiv N (nI s) = true) (hn : n ≤ 2) (hu : u ≤ 10) (hp : sIn p 0 1 = true) : ∃ a b, a < 2 ^ 63 ∧ 0 < b ∧ b < 2 ^ 63 ∧ chS N s x n u = lN a ∧ chL N s x n = lN b ∧ cChc N (nI s) (nI x) (nI n) (nI u) p = (if p = 0 then lN a / lN (Nat.gcd a b) else lN b / lN (Nat.gcd a b)) := by
  obtain ⟨f, f1, f2⟩ := felt_n hN hx hs
  have ef : (sFelt N (nI x) (nI s)).toNatClampNeg = f := by rw [f2, cl8 (by omega)]
  obtain ⟨a, a1, a2⟩ := wkW_ok (show n < 3 by omega) (show u < 11 by omega) f1 (whi N x) (f + 1) (Nat.le_refl _)
  have hb := chL_ok n (by omega) f f1
  obtain ⟨b, b1, b2⟩ := pk_lOf (x := lpow (lpow 10 n) f) (Int64.not_lt.mpr (Int64.le_of_lt hb))
  have hb0 : 0 < b := by
    rw [b2, show (0 : Int64) = lN 0 from rfl, pk_lLT (by decide) b1] at hb
    exact hb
  have ha : a < 2 ^ 63 := by
    have : (f + 1) * 2 ^ 59 ≤ 9 * 2 ^ 59 := Nat.mul_le_mul_right _ (by omega)
    omega
  have eS : chS N s x n u = lN a := by unfold chS; rw [ef]; exact a2
  have eL : chL N s x n = lN b := by unfold chL; rw [ef]; exact b2
  have eU : chUp N (nI x) (nI s) n u = lN a := by unfold chUp; rw [ef, cl8 (show x < 1000 by omega)]; exact a2
  have eLo : chLo N (nI x) (nI s) n = lN b := by unfold chLo; rw [ef]; exact b2
  have eG : chG N (nI x) (nI s) n u = lN (Nat.gcd a b) := by
    unfold chG
    rw [eU, eLo, gcd_go 63 200 b a (by decide) ha b1 ha, Nat.gcd_comm]
  have hg : 0 < Nat.gcd a b := Nat.gcd_pos_of_pos_right a hb0
  have hg2 : Nat.gcd a b < 2 ^ 63 := Nat.lt_of_le_of_lt (Nat.gcd_le_right a hb0) b1
  refine ⟨a, b, ha, hb0, b1, eS, eL, ?_⟩
  unfold cChc
  rw [if_pos hv, if_pos (box_of hx), if_pos (show sIn (nI n) 0 2 = true from in_k 2 rfl hn (by decide)), if_pos (show sIn (nI u) 0 10 = true from in_k 10 rfl hu (by decide)), if_pos hp, cl8 (show n < 1000 by omega), cl8 (show u < 1000 by omega), eG, eU, eLo]
  rw [if_neg (by rw [show (1 : Int64) = lN 1 from rfl, pk_lLT hg2 (by decide)]; omega)]
theorem chance_r {N : WS} {s x n u p : Int32} (hn : (sLiv N s && sBox x && (sIn n 0 2 && (sIn u 0 10 && sIn p 0 1))) = false) : cChc N s x n u p = if sLiv N s && sBox x then -1000000000000000002 else -1000000000000000001 := by
  unfold cChc
  cases h1 : sLiv N s
  · rfl
  · cases h2 : sBox x
    · rfl
    · rw [h1, h2] at hn
      cases h3 : sIn n 0 2
      · rfl
      · cases h4 : sIn u 0 10
        · rfl
        · cases h5 : sIn p 0 1
          · rfl
          · rw [h3, h4, h5] at hn; cases hn
/-- laws -/
def SMk (N : WS) (g : Nat) : Prop := ∀ i, i < g → ∃ a, a < 256 ∧ wsm N i = nI a
theorem sgt_n {N : WS} {g i w : Nat} (hS : SMk N g) (hi : i < g) (hw : w < 256) : ∃ c, c < 9 ∧ bc (nI w &&& wsm N i) = nI c ∧ mb (wsm N i &&& nI w) = nI c := by
  obtain ⟨a, ha, ea⟩ := hS i hi
  rw [ea, nI_and, nI_and, Nat.and_comm a w]
  have hl : w &&& a < 256 := Nat.lt_of_le_of_lt Nat.and_le_left hw
  obtain ⟨c, c1, c2⟩ := bc8 _ hl
  exact ⟨c, c1, c2, by rw [mb_bc _ hl]; exact c2⟩
theorem law_n {N : WS} {g w : Nat} (hS : SMk N g) (hw : w < 256) : ∀ k, k ≤ g → ∃ lo hi, 1 ≤ lo ∧ lo < 10 ∧ hi < 9 ∧ iter (fLh N (nI w)) k 1 = nI lo ∧ iter (fMh N (nI w)) k (bc (nI w)) = nI hi ∧ ∀ t, t < 100 → iter (fLw N w t) k (sIn (nI t) 1 (mb (nI w))) = decide (lo ≤ t ∧ t ≤ hi)
  | 0, _ => by
    obtain ⟨v, v1, v2⟩ := bc8 w hw
    refine ⟨1, v, by decide, by decide, v1, rfl, v2, fun t ht => ?_⟩
    show sIn (nI t) 1 (mb (nI w)) = _
    rw [mb_bc w hw, v2]
    unfold sIn
    rw [← Bool.decide_and, decide_eq_decide, show (1 : Int32) = nI 1 from rfl, nI_leI (by decide) (by omega), nI_leI (by omega) (by omega)]
  | k + 1, hk => by
    obtain ⟨lo, hi, l1, l2, h1, e1, e2, e3⟩ := law_n hS hw k (by omega)
    obtain ⟨c, c1, c2, c3⟩ := sgt_n hS (show k < g by omega) hw
    cases hb : sBit (wop N) (nI k)
    · refine ⟨if lo < c + 1 then c + 1 else lo, hi, by split <;> omega, by split <;> omega, h1, ?_, ?_, fun t ht => ?_⟩
      · rw [iter_s, e1]; unfold fLh imax; rw [hb, c2, show nI c + 1 = nI (c + 1) from (nI_succ c).symm]
        by_cases h : lo < c + 1
        · rw [if_pos h, if_neg (by decide), if_pos ((nI_ltI (by omega) (by omega)).mpr h)]
        · rw [if_neg h, if_neg (by decide), if_neg (fun z => h ((nI_ltI (by omega) (by omega)).mp z))]
      · rw [iter_s, e2]; unfold fMh; rw [hb]; rfl
      · rw [iter_s, e3 t ht]; unfold fLw; rw [hb, c3]
        by_cases h : lo < c + 1
        · rw [if_pos h]
          by_cases ht2 : t ≤ c
          · rw [decide_eq_true ((nI_leI (by omega) (by omega)).mpr ht2), decide_eq_false (show ¬ (c + 1 ≤ t ∧ t ≤ hi) by omega)]
            cases decide (lo ≤ t ∧ t ≤ hi) <;> rfl
          · rw [decide_eq_false (fun z => ht2 ((nI_leI (by omega) (by omega)).mp z)), show (false == false) = true from rfl, Bool.and_true, decide_eq_decide]
            omega
        · rw [if_neg h]
          by_cases ht2 : t ≤ c
          · rw [decide_eq_true ((nI_leI (by omega) (by omega)).mpr ht2), decide_eq_false (show ¬ (lo ≤ t ∧ t ≤ hi) by omega)]
            rfl
          · rw [decide_eq_false (fun z => ht2 ((nI_leI (by omega) (by omega)).mp z)), show (false == false) = true from rfl, Bool.and_true]
    · refine ⟨lo, if c < hi then c else hi, l1, l2, by split <;> omega, ?_, ?_, fun t ht => ?_⟩
      · rw [iter_s, e1]; unfold fLh; rw [hb]; rfl
      · rw [iter_s, e2]; unfold fMh imin; rw [hb, c2]
        by_cases h : c < hi
        · rw [if_pos h, if_pos rfl, if_pos ((nI_ltI (by omega) (by omega)).mpr h)]
        · rw [if_neg h, if_pos rfl, if_neg (fun z => h ((nI_ltI (by omega) (by omega)).mp z))]
      · rw [iter_s, e3 t ht]; unfold fLw; rw [hb, c3]
        by_cases ht2 : t ≤ c
        · rw [decide_eq_true ((nI_leI (by omega) (by omega)).mpr ht2), show (true == true) = true from rfl, Bool.and_true, decide_eq_decide]
          by_cases h : c < hi
          · rw [if_pos h]; omega
          · rw [if_neg h]
        · rw [decide_eq_false (fun z => ht2 ((nI_leI (by omega) (by omega)).mp z)), show (false == true) = false from rfl, Bool.and_false]
          refine (decide_eq_false ?_).symm
          by_cases h : c < hi
          · rw [if_pos h]; omega
          · rw [if_neg h]; omega
def loN (N : WS) (g w : Nat) : Nat := (lH N g (nI w)).toNatClampNeg
def hiN (N : WS) (g w : Nat) : Nat := (mH N g (nI w)).toNatClampNeg
def fitN (N : WS) (g w : Nat) : Nat := hiN N g w + 1 - loN N g w
theorem law_w {N : WS} {g w : Nat} (hS : SMk N g) (hw : w < 256) : 1 ≤ loN N g w ∧ loN N g w < 10 ∧ hiN N g w < 9 ∧ lH N g (nI w) = nI (loN N g w) ∧ mH N g (nI w) = nI (hiN N g w) ∧ ∀ t, t < 100 → isLw N g w t = decide (loN N g w ≤ t ∧ t ≤ hiN N g w) := by
  obtain ⟨lo, hi, l1, l2, h1, e1, e2, e3⟩ := law_n hS hw g (Nat.le_refl g)
  have a1 : loN N g w = lo := by unfold loN lH; rw [e1, cl8 (by omega)]
  have a2 : hiN N g w = hi := by unfold hiN mH; rw [e2, cl8 (by omega)]
  rw [a1, a2]
  exact ⟨l1, l2, h1, e1, e2, e3⟩
theorem fit_lt {N : WS} {g w : Nat} (hS : SMk N g) (hw : w < 256) : fitN N g w ≤ 8 := by
  obtain ⟨l1, l2, h1, -⟩ := law_w hS hw
  unfold fitN; omega
theorem lfit_n {N : WS} {g w : Nat} (hS : SMk N g) (hw : w < 256) : lFit N g (nI w) = nI (fitN N g w) := by
  obtain ⟨l1, l2, h1, e1, e2, -⟩ := law_w hS hw
  unfold lFit imax fitN
  rw [e1, e2]
  by_cases h : loN N g w ≤ hiN N g w
  · rw [pk_sub h, show nI (hiN N g w - loN N g w) + 1 = nI (hiN N g w - loN N g w + 1) from (nI_succ _).symm, if_pos (show (0 : Int32) < _ from (nI_ltI (a := 0) (by decide) (by omega)).mpr (by omega))]
    congr 1; omega
  · have e : nI (hiN N g w) - nI (loN N g w) + 1 = nI (hiN N g w + 1) - nI (loN N g w) := by
      rw [nI_succ, Int32.sub_eq_add_neg, Int32.sub_eq_add_neg, Int32.add_assoc, Int32.add_comm (-nI (loN N g w)) 1, Int32.add_assoc]
    rw [e, show hiN N g w + 1 - loN N g w = 0 by omega]
    by_cases h2 : hiN N g w + 1 < loN N g w
    · rw [if_neg (fun z => Int32.lt_asymm z (pk_sneg (by omega) h2))]; rfl
    · rw [show hiN N g w + 1 = loN N g w by omega, pk_sub (Nat.le_refl _), Nat.sub_self]
      rw [if_neg (by decide)]; rfl
def fsumN (N : WS) (g : Nat) : Nat → Nat
  | 0 => 0
  | k + 1 => fsumN N g k + fitN N g (k + 1)
theorem fsum_le {N : WS} {g : Nat} (hS : SMk N g) : ∀ k, k ≤ 255 → fsumN N g k ≤ 8 * k
  | 0, _ => Nat.le_refl 0
  | k + 1, h => by
    have := fsum_le hS k (by omega)
    have := fit_lt hS (show k + 1 < 256 by omega)
    rw [fsumN]; omega
theorem wlT_n {N : WS} {g : Nat} (hS : SMk N g) : ∀ k, k ≤ 255 → wlT N g k 0 = nI (fsumN N g k)
  | 0, _ => rfl
  | k + 1, h => by
    have ih := wlT_n hS k (by omega)
    obtain ⟨l1, l2, h1, e1, e2, -⟩ := law_w hS (show k + 1 < 256 by omega)
    show wwT (lH N g (nI (k + 1))) (mH N g (nI (k + 1))) (wlT N g k 0) = _
    rw [ih, fsumN, e1, e2]
    unfold wwT fitN
    by_cases hc : loN N g (k + 1) ≤ hiN N g (k + 1)
    · rw [if_pos ((nI_leI (by omega) (by omega)).mpr hc), pk_sub hc, show nI (hiN N g (k + 1) - loN N g (k + 1)) + 1 = nI (hiN N g (k + 1) - loN N g (k + 1) + 1) from (nI_succ _).symm, nI_add]
      congr 1; omega
    · rw [if_neg (fun z => hc ((nI_leI (by omega) (by omega)).mp z))]
      congr 1; omega
theorem nI_nm1 {k : Nat} (hk : k < 2 ^ 31) : ¬ nI k = -1 := fun z => absurd (show nI k < 0 by rw [z]; decide) (nI_pos hk)
theorem lin_p {c : Nat → Bool} {w lo hi I : Nat} (hI : I < 2 ^ 31) (hlo : lo < 10) (hhi : hi < 9) (hc : ∀ t, t < 100 → c t = decide (lo ≤ t ∧ t ≤ hi)) : ∀ k t A, t + k = 9 → A ≤ I → A < 10000 + t → lawIn c w (nI I) k t (nI A) = if I - A < hi + 1 - (if t < lo then lo else t) then .inl (10 * nI w + nI ((if t < lo then lo else t) + (I - A))) else .inr (nI (A + (hi + 1 - (if t < lo then lo else t))))
  | 0, t, A, ht, hA, hA2 => by
    rw [lawIn, if_neg (by split <;> omega)]
    congr 2
    split <;> omega
  | k + 1, t, A, ht, hA, hA2 => by
    rw [lawIn, hc t (by omega)]
    by_cases h : lo ≤ t ∧ t ≤ hi
    · rw [decide_eq_true h, if_pos rfl, if_neg (show ¬ t < lo by omega)]
      by_cases hAI : A = I
      · rw [if_pos (by rw [hAI]), if_pos (by omega)]
        congr 3; omega
      · rw [if_neg (fun z => hAI ((nI_eqI (by omega) (by omega)).mp z)), show nI A + 1 = nI (A + 1) from (nI_succ A).symm, lin_p hI hlo hhi hc k (t + 1) (A + 1) (by omega) (by omega) (by omega), if_neg (show ¬ t + 1 < lo by omega)]
        by_cases h2 : I - A < hi + 1 - t
        · rw [if_pos h2, if_pos (by omega)]
          congr 3; omega
        · rw [if_neg h2, if_neg (by omega)]
          congr 2; omega
    · rw [decide_eq_false h, if_neg (by decide), lin_p hI hlo hhi hc k (t + 1) A (by omega) hA (by omega)]
      by_cases h1 : t < lo
      · rw [if_pos h1]
        by_cases h2 : t + 1 < lo
        · rw [if_pos h2]
        · rw [if_neg h2, show t + 1 = lo by omega]
      · rw [if_neg h1, if_neg (show ¬ t + 1 < lo by omega), if_neg (by omega), if_neg (by omega)]
        congr 2; omega
theorem lin_n {c : Nat → Bool} {w lo hi : Nat} {i : Int32} (hi0 : i < 0) (hlo : lo < 10) (hhi : hi < 9) (hc : ∀ t, t < 100 → c t = decide (lo ≤ t ∧ t ≤ hi)) : ∀ k t A, t + k = 9 → A < 10000 + t → lawIn c w i k t (nI A) = .inr (nI (A + (hi + 1 - (if t < lo then lo else t))))
  | 0, t, A, ht, hA2 => by
    rw [lawIn]
    congr 2
    split <;> omega
  | k + 1, t, A, ht, hA2 => by
    rw [lawIn, hc t (by omega)]
    by_cases h : lo ≤ t ∧ t ≤ hi
    · rw [decide_eq_true h, if_pos rfl, if_neg (show ¬ t < lo by omega)]
      rw [if_neg (fun z => absurd (show nI A < 0 by rw [z]; exact hi0) (nI_pos (by omega))), show nI A + 1 = nI (A + 1) from (nI_succ A).symm, lin_n hi0 hlo hhi hc k (t + 1) (A + 1) (by omega) (by omega), if_neg (show ¬ t + 1 < lo by omega)]
      congr 2; omega
    · rw [decide_eq_false h, if_neg (by decide), lin_n hi0 hlo hhi hc k (t + 1) A (by omega) (by omega)]
      by_cases h1 : t < lo
      · rw [if_pos h1]
        by_cases h2 : t + 1 < lo
        · rw [if_pos h2]
        · rw [if_neg h2, show t + 1 = lo by omega]
      · rw [if_neg h1, if_neg (show ¬ t + 1 < lo by omega)]
        congr 2; omega
theorem lin_p1 {N : WS} {g w I A : Nat} (hS : SMk N g) (hw : w < 256) (hI : I < 2 ^ 31) (hA : A ≤ I) (hA2 : A < 10000) : lawIn (isLw N g w) w (nI I) 8 1 (nI A) = if I - A < fitN N g w then .inl (10 * nI w + nI (loN N g w + (I - A))) else .inr (nI (A + fitN N g w)) := by
  obtain ⟨l1, l2, h1, e1, e2, e3⟩ := law_w hS hw
  rw [lin_p hI l2 h1 e3 8 1 A rfl hA (by omega)]
  have e : (if 1 < loN N g w then loN N g w else 1) = loN N g w := by split <;> omega
  rw [e]; rfl
theorem lin_n1 {N : WS} {g w A : Nat} {i : Int32} (hS : SMk N g) (hw : w < 256) (hi : i < 0) (hA2 : A < 10000) : lawIn (isLw N g w) w i 8 1 (nI A) = .inr (nI (A + fitN N g w)) := by
  obtain ⟨l1, l2, h1, e1, e2, e3⟩ := law_w hS hw
  rw [lin_n hi l2 h1 e3 8 1 A rfl (by omega)]
  have e : (if 1 < loN N g w then loN N g w else 1) = loN N g w := by split <;> omega
  rw [e]; rfl
theorem lout_p {N : WS} {g I : Nat} (hS : SMk N g) (hI : I < 2 ^ 31) : ∀ k w A, w + k = 256 → A ≤ I → A ≤ 8 * w → lawRes (nI I) (lawOut N g (nI I) k w (nI A)) = laGo N g (nI I) k w (nI A)
  | 0, w, A, _, _, _ => by
    rw [lawOut, laGo, lawRes, if_neg (nI_nm1 hI)]
  | k + 1, w, A, hk, hA, hA2 => by
    have hw : w < 256 := by omega
    have hf := fit_lt hS hw
    rw [lawOut, laGo, lin_p1 hS hw hI hA (by omega), lfit_n hS hw, pk_sub hA]
    by_cases h : I - A < fitN N g w
    · rw [if_pos h, if_neg (nI_ge h (by omega))]
      show 10 * nI w + nI (loN N g w + (I - A)) = _
      obtain ⟨l1, l2, h1, e1, e2, e3⟩ := law_w hS hw
      rw [e1, Int32.sub_eq_add_neg, Int32.add_assoc, Int32.add_assoc, ← Int32.sub_eq_add_neg, pk_sub hA, nI_add]
    · rw [if_neg h, if_pos ((nI_leI (by omega) (by omega)).mpr (by omega))]
      show lawRes (nI I) (lawOut N g (nI I) k (w + 1) (nI (A + fitN N g w))) = _
      rw [lout_p hS hI k (w + 1) (A + fitN N g w) (by omega) (by omega) (by omega), nI_add]
theorem lout_n {N : WS} {g : Nat} {i : Int32} (hS : SMk N g) (hi : i < 0) : ∀ k j, j + k = 255 → lawOut N g i k (j + 1) (nI (fsumN N g j)) = .inr (nI (fsumN N g (j + k)))
  | 0, j, _ => rfl
  | k + 1, j, hk => by
    have := fsum_le hS j (by omega)
    rw [lawOut, lin_n1 hS (by omega) hi (by omega)]
    show lawOut N g i k (j + 1 + 1) (nI (fsumN N g (j + 1))) = _
    rw [lout_n hS hi k (j + 1) (by omega)]
    congr 3; omega
theorem laws_eq {N : WS} {g : Nat} (hS : SMk N g) (i : Int32) : cLaw N g i = mLaws N g i := by
  unfold cLaw mLaws
  by_cases h : i < 0
  · have e := lout_n hS h 255 0 rfl
    rw [show lawOut N g i 255 1 0 = lawOut N g i 255 (0 + 1) (nI (fsumN N g 0)) from rfl, e]
    show _ = if i = -1 then nI (fsumN N g (0 + 255)) else -6
    by_cases h1 : i = -1
    · rw [if_pos h1, if_pos h1, wlT_n hS 255 (Nat.le_refl _)]
    · rw [if_neg h1, if_neg h1]
      unfold sLaw
      rw [if_neg (fun z => Int32.not_lt.mpr z h)]
  · obtain ⟨I, hI, -, rfl⟩ := ge_nI (n := 0) (x := i) (by decide) (Int32.not_lt.mp h)
    rw [if_neg (nI_nm1 hI)]
    unfold sLaw
    rw [if_pos (Int32.not_lt.mp h)]
    exact (lout_p hS hI 255 1 0 rfl (Nat.zero_le I) (by decide)).symm
