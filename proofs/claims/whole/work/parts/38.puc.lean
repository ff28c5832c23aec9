/-- next -/
theorem upd_add (d : Nat → Int32) (f : Nat → Int32) (s : Nat) : ∀ k, iter (fun i f => upd f i (f i + d i)) k f s = if s < k then f s + d s else f s
  | 0 => rfl
  | k + 1 => by
    rw [iter_s]
    by_cases h : s = k
    · subst h
      rw [pk_us, upd_add d f s s, if_neg (Nat.lt_irrefl s), if_pos (Nat.lt_succ_self s)]
    · rw [pk_un h, upd_add d f s k]
      by_cases h2 : s < k
      · rw [if_pos h2, if_pos (by omega)]
      · rw [if_neg h2, if_neg (by omega)]
theorem zO_at (f : Nat → Int32) (s : Nat) : ∀ k, s < k → zO k f s = 0
  | 0, h => absurd h (by omega)
  | k + 1, h => by
    show upd (zO k f) k 0 s = 0
    by_cases hk : s = k
    · subst hk; exact pk_us
    · rw [pk_un hk]; exact zO_at f s k (by omega)
def ceN (N : WS) (w s : Nat) : Nat := (bc (nI w &&& wmk N s)).toNatClampNeg
theorem ce_n {N : WS} (hN : NOk N) {w s : Nat} (hw : w < 256) (hs : s < 8) : ceN N w s < 9 ∧ bc (nI w &&& wmk N s) = nI (ceN N w s) ∧ mb (wmk N s &&& nI w) = nI (ceN N w s) := by
  obtain ⟨a, ha, ea⟩ := (hN.1 s hs).1
  unfold ceN
  rw [ea, nI_and, nI_and, Nat.and_comm a w]
  have hl : w &&& a < 256 := Nat.lt_of_le_of_lt Nat.and_le_left hw
  obtain ⟨c, c1, c2⟩ := bc8 _ hl
  rw [mb_bc _ hl, c2, cl8 (by omega)]
  exact ⟨c1, rfl, rfl⟩
def mnN (a b : Nat) : Nat := if a < b then a else b
def ysN (N : WS) (g s : Nat) : Nat → Nat
  | 0 => 0
  | k + 1 => ysN N g s k + (mnN (hiN N g (k + 1)) (ceN N (k + 1) s) + 1 - loN N g (k + 1))
theorem wlO_n {N : WS} {g : Nat} (hS : SMk N g) (hN : NOk N) (op : Nat → Int32) {s : Nat} (hs : s < 8) : ∀ k, k ≤ 255 → wlO N g k (zO 8 op) s = nI (ysN N g s k)
  | 0, _ => zO_at op s 8 hs
  | k + 1, h => by
    have ih := wlO_n hS hN op hs k (by omega)
    obtain ⟨l1, l2, h1, e1, e2, -⟩ := law_w hS (show k + 1 < 256 by omega)
    obtain ⟨c1, c2, -⟩ := ce_n hN (show k + 1 < 256 by omega) hs
    show wwO N (nI (k + 1)) (lH N g (nI (k + 1))) (mH N g (nI (k + 1))) (wlO N g k (zO 8 op)) s = _
    rw [e1, e2, ysN]
    unfold wwO
    generalize hlo : loN N g (k + 1) = lo at *
    generalize hhi : hiN N g (k + 1) = hi at *
    generalize hce : ceN N (k + 1) s = c at *
    by_cases hc : lo ≤ hi
    · rw [if_pos ((nI_leI (by omega) (by omega)).mpr hc)]
      show iter (fun i f => upd f i (f i + imax 0 (imin (nI hi) (bc (nI (k + 1) &&& wmk N i)) - nI lo + 1))) 8 (wlO N g k (zO 8 op)) s = _
      rw [upd_add, if_pos hs, ih, c2]
      have em : imin (nI hi) (nI c) = nI (mnN hi c) := by
        unfold imin mnN
        by_cases h2 : c < hi
        · rw [if_pos ((nI_ltI (by omega) (by omega)).mpr h2), if_neg (by omega)]
        · rw [if_neg (fun z => h2 ((nI_ltI (by omega) (by omega)).mp z))]
          by_cases h3 : hi < c
          · rw [if_pos h3]
          · rw [if_neg h3, show c = hi by omega]
      have hm : mnN hi c < 9 := by unfold mnN; split <;> omega
      rw [em]
      have ex : imax 0 (nI (mnN hi c) - nI lo + 1) = nI (mnN hi c + 1 - lo) := by
        have e : nI (mnN hi c) - nI lo + 1 = nI (mnN hi c + 1) - nI lo := by
          rw [nI_succ, Int32.sub_eq_add_neg, Int32.sub_eq_add_neg, Int32.add_assoc, Int32.add_comm (-nI lo) 1, Int32.add_assoc]
        rw [e]
        unfold imax
        by_cases h2 : mnN hi c + 1 < lo
        · rw [if_neg (fun z => Int32.lt_asymm z (pk_sneg (by omega) h2)), show mnN hi c + 1 - lo = 0 by omega]; rfl
        · rw [pk_sub (by omega)]
          by_cases h3 : mnN hi c + 1 - lo = 0
          · rw [h3, if_neg (by decide)]; rfl
          · rw [if_pos (show (0 : Int32) < _ from (nI_ltI (a := 0) (by decide) (by omega)).mpr (by omega))]
      rw [ex, nI_add]
    · rw [if_neg (fun z => hc ((nI_leI (by omega) (by omega)).mp z)), ih]
      congr 1
      have : mnN hi c ≤ hi := by unfold mnN; split <;> omega
      omega
theorem yeT_n {N : WS} {g : Nat} (hS : SMk N g) (hN : NOk N) {w s : Nat} (hw : w < 256) (hs : s < 8) (hl : sLiv N (nI s) = true) {f : Nat → Int32} {A : Nat} (hf : f s = nI A) : ∀ k, k ≤ 8 → iter (yeT N g w) k f s = nI (A + (mnN (mnN k (hiN N g w)) (ceN N w s) + 1 - loN N g w))
  | 0, _ => by
    obtain ⟨l1, l2, h1, e1, e2, e3⟩ := law_w hS hw
    show f s = _
    rw [hf]
    congr 1
    have : mnN (mnN 0 (hiN N g w)) (ceN N w s) = 0 := by unfold mnN; split <;> split <;> omega
    omega
  | k + 1, h => by
    have ih := yeT_n hS hN hw hs hl hf k (by omega)
    obtain ⟨l1, l2, h1, e1, e2, e3⟩ := law_w hS hw
    obtain ⟨c1, -, c3⟩ := ce_n hN hw hs
    rw [iter_s]
    unfold yeT at ih ⊢
    rw [e3 (k + 1) (by omega)]
    generalize hlo : loN N g w = lo at *
    generalize hhi : hiN N g w = hi at *
    generalize hce : ceN N w s = c at *
    by_cases hc : lo ≤ k + 1 ∧ k + 1 ≤ hi
    · rw [decide_eq_true hc, if_pos rfl]
      show iter (fun i f => upd f i (f i + (bif sLiv N (nI i) then (if mb (wmk N i &&& nI w) < nI (k + 1) then 0 else 1) else 0))) 8 _ s = _
      rw [upd_add, if_pos hs, ih, hl, c3]
      by_cases h2 : c < k + 1
      · rw [if_pos ((nI_ltI (by omega) (by omega)).mpr h2)]
        show nI _ + 0 = _
        rw [Int32.add_zero]
        congr 1
        unfold mnN
        repeat' split
        all_goals omega
      · rw [if_neg (fun z => h2 ((nI_ltI (by omega) (by omega)).mp z))]
        show nI _ + 1 = _
        rw [← nI_succ]
        congr 1
        unfold mnN
        repeat' split
        all_goals omega
    · rw [decide_eq_false hc, if_neg (by decide), ih]
      congr 1
      unfold mnN
      repeat' split
      all_goals omega
theorem yeA_n {N : WS} {g : Nat} (hS : SMk N g) (hN : NOk N) (f : Nat → Int32) {s : Nat} (hs : s < 8) (hl : sLiv N (nI s) = true) : ∀ k, k ≤ 255 → iter (yeW N g) k (zO 8 f) s = nI (ysN N g s k)
  | 0, _ => zO_at f s 8 hs
  | k + 1, h => by
    have ih := yeA_n hS hN f hs hl k (by omega)
    obtain ⟨l1, l2, h1, e1, e2, e3⟩ := law_w hS (show k + 1 < 256 by omega)
    obtain ⟨c1, -, c3⟩ := ce_n hN (show k + 1 < 256 by omega) hs
    rw [iter_s]
    unfold yeW at ih ⊢
    rw [yeT_n hS hN (show k + 1 < 256 by omega) hs hl ih 8 (Nat.le_refl 8), ysN]
    congr 1
    have : mnN 8 (hiN N g (k + 1)) = hiN N g (k + 1) := by unfold mnN; split <;> omega
    rw [this]
theorem alT_n {N : WS} {g : Nat} (hS : SMk N g) {w A : Nat} (hw : w < 256) : ∀ k, k ≤ 8 → iter (alT N g w) k (nI A) = nI (A + (mnN k (hiN N g w) + 1 - loN N g w))
  | 0, _ => by
    obtain ⟨l1, l2, h1, e1, e2, e3⟩ := law_w hS hw
    show nI A = _
    congr 1
    have : mnN 0 (hiN N g w) = 0 := by unfold mnN; split <;> omega
    omega
  | k + 1, h => by
    have ih := alT_n hS (A := A) hw k (by omega)
    obtain ⟨l1, l2, h1, e1, e2, e3⟩ := law_w hS hw
    rw [iter_s, ih]
    unfold alT
    rw [e3 (k + 1) (by omega)]
    by_cases hc : loN N g w ≤ k + 1 ∧ k + 1 ≤ hiN N g w
    · rw [decide_eq_true hc, if_pos rfl, ← nI_succ]
      congr 1
      unfold mnN
      repeat' split
      all_goals omega
    · rw [decide_eq_false hc, if_neg (by decide)]
      congr 1
      unfold mnN
      repeat' split
      all_goals omega
theorem alA_n {N : WS} {g : Nat} (hS : SMk N g) : ∀ k, k ≤ 255 → iter (alW N g) k 0 = nI (fsumN N g k)
  | 0, _ => rfl
  | k + 1, h => by
    have ih := alA_n hS k (by omega)
    obtain ⟨l1, l2, h1, e1, e2, e3⟩ := law_w hS (show k + 1 < 256 by omega)
    rw [iter_s, ih, fsumN]
    unfold alW
    rw [alT_n hS (show k + 1 < 256 by omega) 8 (Nat.le_refl 8)]
    congr 2
    have : mnN 8 (hiN N g (k + 1)) = hiN N g (k + 1) := by unfold mnN; split <;> omega
    rw [this]; rfl
theorem ys_le {N : WS} {g s : Nat} (hS : SMk N g) : ∀ k, k ≤ 255 → ysN N g s k ≤ fsumN N g k
  | 0, _ => Nat.le_refl 0
  | k + 1, h => by
    have := ys_le (s := s) hS k (by omega)
    have h2 : mnN (hiN N g (k + 1)) (ceN N (k + 1) s) ≤ hiN N g (k + 1) := by unfold mnN; split <;> omega
    rw [ysN, fsumN, fitN]
    omega
/-- the worst that is left behind a trial -/
theorem wor_eq {op y : Nat → Int32} {a : Int32} {s : Nat} (hs : s < 8) (h : op s = y s) : sMl op a (nI s) = wor y a s := by
  unfold sMl wor imax
  rw [if_pos (soul_of hs), cl8 (by omega), h]
  by_cases h2 : y s < a - y s
  · rw [if_pos h2, if_pos (Int32.le_of_lt h2)]
  · rw [if_neg h2]
    by_cases h3 : y s ≤ a - y s
    · rw [if_pos h3]
      exact Int32.le_antisymm h3 (Int32.not_lt.mp h2)
    · rw [if_neg h3]
theorem wor_lt {y : Nat → Int32} {A Z s : Nat} (hy : y s = nI Z) (hZ : Z ≤ A) (hA : A ≤ 2040) : ∃ v, v ≤ 2040 ∧ wor y (nI A) s = nI v := by
  unfold wor
  rw [hy, pk_sub hZ]
  split
  · exact ⟨A - Z, by omega, rfl⟩
  · exact ⟨Z, by omega, rfl⟩
theorem pick_n {N : WS} {op y : Nat → Int32} {A : Nat} (hA : A ≤ 2040) (hyo : ∀ s, s < 8 → sLiv N (nI s) = true → op s = y s ∧ ∃ Z, Z ≤ A ∧ y s = nI Z) : ∀ k, k ≤ 8 → (iter (fTt N op (nI A)) k (-6) = -6 ∧ iter (fNx N y (nI A)) k (-6, FARc) = (-6, FARc)) ∨ ∃ i, i < 8 ∧ sLiv N (nI i) = true ∧ iter (fTt N op (nI A)) k (-6) = nI i ∧ iter (fNx N y (nI A)) k (-6, FARc) = (nI i, wor y (nI A) i)
  | 0, _ => Or.inl ⟨rfl, rfl⟩
  | k + 1, h => by
    have ih := pick_n hA hyo k (by omega)
    rw [iter_s, iter_s]
    cases hl : sLiv N (nI k)
    · have e1 : ∀ b, fTt N op (nI A) k b = b := fun b => by unfold fTt; rw [hl]; rfl
      have e2 : ∀ p, fNx N y (nI A) k p = p := fun p => by unfold fNx; rw [hl]; rfl
      rw [e1, e2]
      exact ih
    · obtain ⟨ho, Z, z1, z2⟩ := hyo k (by omega) hl
      obtain ⟨v, v1, v2⟩ := wor_lt z2 z1 hA
      rcases ih with ⟨a1, a2⟩ | ⟨i, i1, i2, a1, a2⟩
      · refine Or.inr ⟨k, by omega, hl, ?_, ?_⟩
        · rw [a1]; unfold fTt; rw [if_pos hl, if_pos rfl]
        · rw [a2]; unfold fNx; rw [if_pos hl]
          show (if FARc ≤ wor y (nI A) k then _ else _) = _
          rw [v2, if_neg (show ¬ FARc ≤ nI v from fun z => absurd ((nI_leI (a := 1000000) (by decide) (by omega)).mp z) (by omega))]
      · obtain ⟨ho2, Z2, z3, z4⟩ := hyo i i1 i2
        rw [a1, a2]
        unfold fTt fNx
        rw [if_pos hl, if_pos hl, if_neg (nI_n6 (by omega)), wor_eq i1 ho2, wor_eq (by omega) ho]
        show (_ ∧ (if wor y (nI A) i ≤ wor y (nI A) k then _ else _) = _) ∨ _
        by_cases hc : wor y (nI A) i ≤ wor y (nI A) k
        · refine Or.inr ⟨i, i1, i2, by rw [if_pos hc], ?_⟩
          show (if wor y (nI A) i ≤ wor y (nI A) k then _ else _) = _
          rw [if_pos hc]
        · refine Or.inr ⟨k, by omega, hl, by rw [if_neg hc], ?_⟩
          show (if wor y (nI A) i ≤ wor y (nI A) k then _ else _) = _
          rw [if_neg hc]
theorem next_eq {N : WS} {g : Nat} (hS : SMk N g) (hN : NOk N) (op f : Nat → Int32) (w : Int32) : cNxt N g op w = mNxt N g f w := by
  have hT := wlT_n hS 255 (Nat.le_refl _)
  have hA := alA_n hS 255 (Nat.le_refl _)
  have hF := fsum_le hS 255 (Nat.le_refl _)
  have hA' : alA N g = nI (fsumN N g 255) := hA
  have hyo : ∀ s, s < 8 → sLiv N (nI s) = true → wlO N g 255 (zO 8 op) s = yeA N g f s ∧ ∃ Z, Z ≤ fsumN N g 255 ∧ yeA N g f s = nI Z := by
    intro s hs hl
    have a1 := wlO_n hS hN op hs 255 (Nat.le_refl _)
    have a2 : yeA N g f s = nI (ysN N g s 255) := yeA_n hS hN f hs hl 255 (Nat.le_refl _)
    exact ⟨by rw [a1, a2], _, ys_le hS 255 (Nat.le_refl _), a2⟩
  have hp := pick_n (by omega) hyo 8 (Nat.le_refl 8)
  unfold cNxt mNxt cNxT sTt nxP
  rw [hT, hA']
  cases hw : sIn w 0 1
  · rfl
  · rw [if_pos rfl, if_pos rfl]
    by_cases h0 : nI (fsumN N g 255) ≤ 0
    · rw [if_pos h0, if_pos h0, if_pos rfl]
      show _ = (if (-6 : Int32) < 0 then -6 else _)
      rw [if_pos (by decide)]
    · rw [if_neg h0, if_neg h0]
      rcases hp with ⟨a1, a2⟩ | ⟨i, i1, i2, a1, a2⟩
      · rw [a1, a2, if_pos rfl]
        show _ = (if (-6 : Int32) < 0 then -6 else _)
        rw [if_pos (by decide)]
      · rw [a1, a2, if_neg (nI_n6 (by omega)), wor_eq i1 (hyo i i1 i2).1]
        show _ = (if nI i < 0 then _ else _)
        rw [if_neg (nI_pos (by omega))]
