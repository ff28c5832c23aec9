theorem nI_eqI {a b : Nat} (ha : a < 2 ^ 31) (hb : b < 2 ^ 31) : nI a = nI b ↔ a = b :=
  ⟨fun h => by have := congrArg Int32.toInt h; rw [nI_toInt ha, nI_toInt hb] at this; omega, fun h => by rw [h]⟩
/-- the fault of the signs -/
def fRel (a b : Int32) : Prop := (a = 0 ∧ b = 0) ∨ (a = 1 ∧ b = 1) ∨ (a = 2 ∧ b = 3) ∨ (a = 3 ∧ b = 2)
theorem fst0 (g : Int32) : sStep 0 g = (if g = 46 then 0 else if sIn g 65 72 then 1 else -6) := by
  unfold sStep; rw [if_pos rfl]
theorem fst1 (g : Int32) : sStep 1 g = (if g = 62 then 3 else if g = 61 then 2 else if sIn g 48 53 then 0 else -6) := by
  unfold sStep; rw [if_neg (by decide), if_pos rfl]
theorem fst2 (g : Int32) : sStep 2 g = (if sIn g 49 57 then 3 else -6) := by
  unfold sStep; rw [if_neg (by decide), if_neg (by decide), if_pos rfl]
theorem fst3 (g : Int32) : sStep 3 g = (if sIn g 65 72 then 0 else -6) := by
  unfold sStep; rw [if_neg (by decide), if_neg (by decide), if_neg (by decide)]
theorem fok0 (g : Int32) : mOk 0 g = (sIn g 65 72 || decide (g = 46)) := by
  unfold mOk; rw [if_pos rfl]
theorem fok1 (g : Int32) : mOk 1 g = (sIn g 48 53 || (decide (g = 62) || decide (g = 61))) := by
  unfold mOk; rw [if_neg (by decide), if_pos rfl]
theorem fok2 (g : Int32) : mOk 2 g = sIn g 65 72 := by
  unfold mOk; rw [if_neg (by decide), if_neg (by decide), if_pos rfl]
theorem fok3 (g : Int32) : mOk 3 g = sIn g 49 57 := by
  unfold mOk; rw [if_neg (by decide), if_neg (by decide), if_neg (by decide)]
theorem fnx0 (g : Int32) : mNx 0 g = (if g = 46 then 0 else 1) := by
  unfold mNx; rw [if_pos rfl]
theorem fnx1 (g : Int32) : mNx 1 g = (if g = 62 then 2 else if g = 61 then 3 else 0) := by
  unfold mNx; rw [if_neg (by decide), if_pos rfl]
theorem fnx2 (g : Int32) : mNx 2 g = 0 := by
  unfold mNx; rw [if_neg (by decide), if_neg (by decide), if_neg (by decide)]
theorem fnx3 (g : Int32) : mNx 3 g = 2 := by
  unfold mNx; rw [if_neg (by decide), if_neg (by decide), if_pos rfl]
theorem fr00 : fRel 0 0 := Or.inl ⟨rfl, rfl⟩
theorem fr11 : fRel 1 1 := Or.inr (Or.inl ⟨rfl, rfl⟩)
theorem fr23 : fRel 2 3 := Or.inr (Or.inr (Or.inl ⟨rfl, rfl⟩))
theorem fr32 : fRel 3 2 := Or.inr (Or.inr (Or.inr ⟨rfl, rfl⟩))
theorem fstep {a b : Int32} (g : Int32) (h : fRel a b) : (mOk b g = true ∧ ¬ sStep a g = -6 ∧ fRel (sStep a g) (mNx b g)) ∨ (mOk b g = false ∧ sStep a g = -6) := by
  rcases h with ⟨rfl, rfl⟩ | ⟨rfl, rfl⟩ | ⟨rfl, rfl⟩ | ⟨rfl, rfl⟩
  · rw [fst0, fok0, fnx0]
    by_cases h1 : g = 46
    · rw [if_pos h1, if_pos h1, decide_eq_true h1, Bool.or_true]; exact Or.inl ⟨rfl, by decide, fr00⟩
    · rw [if_neg h1, if_neg h1, decide_eq_false h1, Bool.or_false]
      cases h2 : sIn g 65 72
      · exact Or.inr ⟨rfl, rfl⟩
      · exact Or.inl ⟨rfl, by decide, fr11⟩
  · rw [fst1, fok1, fnx1]
    by_cases h1 : g = 62
    · rw [if_pos h1, if_pos h1, decide_eq_true h1, Bool.true_or, Bool.or_true]; exact Or.inl ⟨rfl, by decide, fr32⟩
    · rw [if_neg h1, if_neg h1, decide_eq_false h1, Bool.false_or]
      by_cases h2 : g = 61
      · rw [if_pos h2, if_pos h2, decide_eq_true h2, Bool.or_true]; exact Or.inl ⟨rfl, by decide, fr23⟩
      · rw [if_neg h2, if_neg h2, decide_eq_false h2, Bool.or_false]
        cases h3 : sIn g 48 53
        · exact Or.inr ⟨rfl, rfl⟩
        · exact Or.inl ⟨rfl, by decide, fr00⟩
  · rw [fst2, fok3, fnx3]
    cases h3 : sIn g 49 57
    · exact Or.inr ⟨rfl, rfl⟩
    · exact Or.inl ⟨rfl, by decide, fr32⟩
  · rw [fst3, fok2, fnx2]
    cases h3 : sIn g 65 72
    · exact Or.inr ⟨rfl, rfl⟩
    · exact Or.inl ⟨rfl, by decide, fr00⟩
theorem frel0 {a b : Int32} (h : fRel a b) : a = 0 ↔ b = 0 := by
  rcases h with ⟨rfl, rfl⟩ | ⟨rfl, rfl⟩ | ⟨rfl, rfl⟩ | ⟨rfl, rfl⟩ <;> decide
theorem sgn_at {ps : Nat → Int32} {c i : Nat} (hc : c ≤ 60) (hi : i < c) : sSgn ps (nI c) (nI i) = ps i := by
  unfold sSgn
  rw [if_neg (nI_pos (by omega)), if_neg (nI_ge hi (by omega)), cl8 (by omega)]
theorem fgo_eq {ps pd : Nat → Int32} {c : Nat} (hc : c ≤ 60) (hp : ∀ i, i < c → ps i = pd i) : ∀ k i a b, i + k = c → fRel a b → fgo ps (nI c) k i a = mfgo pd k i b
  | 0, i, a, b, _, h => by
    rw [fgo, mfgo]
    by_cases h0 : a = 0
    · rw [if_pos h0, if_pos ((frel0 h).mp h0)]
    · rw [if_neg h0, if_neg (fun z => h0 ((frel0 h).mpr z))]
  | k + 1, i, a, b, hk, h => by
    rw [fgo, mfgo, sgn_at hc (by omega), hp i (by omega)]
    rcases fstep (pd i) h with ⟨h1, h2, h3⟩ | ⟨h1, h2⟩
    · rw [if_neg h2, if_pos h1]
      exact fgo_eq hc hp k (i + 1) _ _ (by omega) h3
    · rw [if_pos h2, if_neg (by rw [h1]; decide)]
/-- what a soul feels of a box -/
theorem bc8 : ∀ v, v < 256 → ∃ k, k < 9 ∧ bc (nI v) = nI k := by decide +kernel
theorem felt_n {N : WS} (hN : NOk N) {x i : Nat} (hx : x < 6) (hi : i < 8) : ∃ k, k < 9 ∧ sFelt N (nI x) (nI i) = nI k := by
  obtain ⟨a, ha, ea⟩ := (hN.1 i hi).1
  obtain ⟨c, hc, ec⟩ := (hN.2.2.1 x hx).1
  unfold sFelt
  rw [cl8 (by omega), cl8 (by omega), ea, ec, nI_and]
  exact bc8 _ (Nat.lt_of_le_of_lt Nat.and_le_left hc)
theorem lb_hit {c : Nat → Bool} {m : Nat} (hc : c m = true) : ∀ k x, x ≤ m → m < x + k → (∀ t, x ≤ t → t < m → c t = false) → lbGo c k x = nI m
  | 0, x, h1, h2, _ => absurd h2 (by omega)
  | k + 1, x, h1, h2, h3 => by
    rw [lbGo]
    by_cases hx : x = m
    · rw [hx, if_pos hc]
    · rw [if_neg (by rw [h3 x (Nat.le_refl x) (by omega)]; decide)]
      exact lb_hit hc k (x + 1) (by omega) (by omega) (fun t a b => h3 t (by omega) b)
theorem lb_none {c : Nat → Bool} : ∀ k x, (∀ t, x ≤ t → t < x + k → c t = false) → lbGo c k x = -6
  | 0, x, _ => rfl
  | k + 1, x, h => by
    rw [lbGo, if_neg (by rw [h x (Nat.le_refl x) (by omega)]; decide)]
    exact lb_none k (x + 1) (fun t a b => h t (by omega) (by omega))
theorem lb_congr {c d : Nat → Bool} : ∀ k x, (∀ t, x ≤ t → t < x + k → c t = d t) → lbGo c k x = lbGo d k x
  | 0, x, _ => rfl
  | k + 1, x, h => by
    rw [lbGo, lbGo, h x (Nat.le_refl x) (by omega), lb_congr k (x + 1) (fun t a b => h t (by omega) (by omega))]
/-- only -/
theorem lst_n {N : WS} (hN : NOk N) {x s : Nat} (hx : x < 6) (hs : s < 8) : ∀ k, k ≤ 8 → ∃ m, m < 10 ∧ iter (fOnl N (nI x) (nI s)) k 0 = nI m ∧ ∀ t, t < 9 → (m ≤ t ↔ ∀ j, j < k → (!decide (j = s) && (sLiv N (nI j) && decide (nI t ≤ sFelt N (nI x) (nI j)))) = false)
  | 0, _ => ⟨0, by decide, rfl, fun t _ => ⟨fun _ j hj => absurd hj (by omega), fun _ => Nat.zero_le t⟩⟩
  | k + 1, hk => by
    obtain ⟨m, h1, h2, h3⟩ := lst_n hN hx hs k (by omega)
    obtain ⟨f, f1, f2⟩ := felt_n hN hx (show k < 8 by omega)
    rw [iter_s, h2]
    by_cases hks : k = s
    · refine ⟨m, h1, by unfold fOnl; rw [if_pos (by rw [hks])], fun t ht => ?_⟩
      rw [h3 t ht]
      constructor
      · intro h j hj
        by_cases hjk : j = k
        · rw [decide_eq_true (show j = s by omega)]; rfl
        · exact h j (by omega)
      · intro h j hj; exact h j (by omega)
    · have hne : ¬ nI k = nI s := fun z => hks ((nI_eqI (by omega) (by omega)).mp z)
      cases hl : sLiv N (nI k)
      · refine ⟨m, h1, by unfold fOnl; rw [if_neg hne, hl]; rfl, fun t ht => ?_⟩
        rw [h3 t ht]
        constructor
        · intro h j hj
          by_cases hjk : j = k
          · rw [hjk, hl, Bool.false_and, Bool.and_false]
          · exact h j (by omega)
        · intro h j hj; exact h j (by omega)
      · have hP : ∀ t, t < 9 → ((!decide (k = s) && (sLiv N (nI k) && decide (nI t ≤ sFelt N (nI x) (nI k)))) = false ↔ f + 1 ≤ t) := by
          intro t ht
          rw [hl, decide_eq_false hks, f2, Bool.true_and, Bool.not_false, Bool.true_and, decide_eq_false_iff_not, nI_leI (by omega) (by omega)]
          omega
        refine ⟨if m < f + 1 then f + 1 else m, by split <;> omega, ?_, fun t ht => ?_⟩
        · unfold fOnl imax
          rw [if_neg hne, hl, if_pos rfl, f2, show nI f + 1 = nI (f + 1) from (nI_succ f).symm]
          by_cases h : m < f + 1
          · rw [if_pos h, if_pos ((nI_ltI (by omega) (by omega)).mpr h)]
          · rw [if_neg h, if_neg (fun z => h ((nI_ltI (by omega) (by omega)).mp z))]
        · constructor
          · intro h j hj
            by_cases hjk : j = k
            · rw [hjk]
              exact (hP t ht).mpr (by revert h; split <;> omega)
            · exact (h3 t ht).mp (by revert h; split <;> omega) j (by omega)
          · intro h
            have a1 := (hP t ht).mp (h k (by omega))
            have a2 := (h3 t ht).mpr (fun j hj => h j (by omega))
            split <;> omega
theorem only_eq {N : WS} (hN : NOk N) {x s : Nat} (hx : x < 6) (hs : s < 8) (hv : sLiv N (nI s) = true) : cOnly N (nI x) (nI s) = mOnl N x s := by
  obtain ⟨m, h1, h2, h3⟩ := lst_n hN hx hs 8 (Nat.le_refl 8)
  obtain ⟨f, f1, f2⟩ := felt_n hN hx hs
  have hon : ∀ t, t < 9 → onF N x s t = decide (m ≤ t ∧ t ≤ f) := by
    intro t ht
    unfold onF
    rw [and_iter (fun j => !decide (j = s) && (sLiv N (nI j) && decide (nI t ≤ sFelt N (nI x) (nI j)))), f2]
    by_cases hmt : m ≤ t
    · have hz : (List.range 8).any (fun j => !decide (j = s) && (sLiv N (nI j) && decide (nI t ≤ sFelt N (nI x) (nI j)))) = false := by
        rw [List.any_eq_false]
        intro j hj
        rw [(h3 t ht).mp hmt j (List.mem_range.mp hj)]; decide
      rw [hz, Bool.not_false, Bool.and_true, decide_eq_decide, nI_leI (by omega) (by omega)]
      exact ⟨fun h => ⟨hmt, h⟩, fun h => h.2⟩
    · have hz : (List.range 8).any (fun j => !decide (j = s) && (sLiv N (nI j) && decide (nI t ≤ sFelt N (nI x) (nI j)))) = true := by
        cases hq : (List.range 8).any (fun j => !decide (j = s) && (sLiv N (nI j) && decide (nI t ≤ sFelt N (nI x) (nI j))))
        · exact absurd ((h3 t ht).mpr (fun j hj => by
            have := (List.any_eq_false.mp hq) j (List.mem_range.mpr hj)
            exact eq_false_of_ne_true this)) hmt
        · rfl
      rw [hz, Bool.not_true, Bool.and_false]
      exact (decide_eq_false (fun h => hmt h.1)).symm
  unfold cOnly mOnl
  rw [if_pos (box_of hx), if_pos hv, f2]
  unfold sLst
  rw [h2]
  by_cases hmf : m ≤ f
  · rw [if_neg (fun z => absurd ((nI_ltI (by omega) (by omega)).mp z) (by omega))]
    exact (lb_hit (by rw [hon m (by omega)]; exact decide_eq_true ⟨Nat.le_refl m, hmf⟩) 9 0 (Nat.zero_le m) (by omega) (fun t _ h => by rw [hon t (by omega)]; exact decide_eq_false (by omega))).symm
  · rw [if_pos ((nI_ltI (by omega) (by omega)).mpr (by omega))]
    exact (lb_none 9 0 (fun t _ h => by rw [hon t (by omega)]; exact decide_eq_false (by omega))).symm
/-- note -/
theorem in01c {q : Int32} (h : sIn q 0 1 = true) : q = 0 ∨ q = 1 := by
  obtain ⟨k, hk, rfl⟩ := in_nI 1 rfl (by decide) (by decide) h
  rcases (show k = 0 ∨ k = 1 by omega) with rfl | rfl
  · exact Or.inl rfl
  · exact Or.inr rfl
theorem note_eq {N : WS} {s : Nat} {q : Int32} (hv : sLiv N (nI s) = true) (hq : sIn q 0 1 = true) : cNote N (nI s) q = if sNote N (nI s) < 0 then sNote N (nI s) else if q = 1 then sNote N (nI s) else bc (sNote N (nI s)) := by
  unfold cNote
  rw [if_pos hv, if_pos hq]
  rcases note_rng N (nI s) 256 (Nat.le_refl _) with h | ⟨a, ha, h⟩
  · have h' : sNote N (nI s) = -6 := h
    rw [h', if_pos rfl, if_pos (by decide)]
  · have h' : sNote N (nI s) = nI a := h
    rw [h', if_neg (nI_n6 (by omega)), if_neg (nI_pos (by omega))]
    rcases in01c hq with rfl | rfl
    · rw [if_pos rfl, if_neg (by decide)]
    · rw [if_neg (by decide), if_pos rfl]
theorem note_r {N : WS} {s q : Int32} (hn : (sLiv N s && sIn q 0 1) = false) : cNote N s q = if sLiv N s then -2 else -1 := by
  unfold cNote
  cases hl : sLiv N s
  · rfl
  · rw [hl, Bool.true_and] at hn
    rw [hn]; rfl
/-- share -/
theorem feel_n {N : WS} (hN : NOk N) {x i : Nat} (hx : x < 6) (hi : i < 8) : ∃ k, k < 9 ∧ sFeelL N (nI x) i = nI k := by
  obtain ⟨f, f1, f2⟩ := felt_n hN hx hi
  unfold sFeelL
  split
  · exact ⟨f, f1, f2⟩
  · exact ⟨0, by decide, rfl⟩
theorem all_n {N : WS} (hN : NOk N) {x : Nat} (hx : x < 6) : ∀ k, k ≤ 8 → ∃ m, m ≤ 8 * k ∧ sAll N (nI x) k = nI m ∧ ∀ j v, j < k → v < 9 → sFeelL N (nI x) j = nI v → v ≤ m
  | 0, _ => ⟨0, by decide, rfl, fun j v h => absurd h (by omega)⟩
  | k + 1, hk => by
    obtain ⟨m, h1, h2, h3⟩ := all_n hN hx k (by omega)
    obtain ⟨f, f1, f2⟩ := feel_n hN hx (show k < 8 by omega)
    refine ⟨m + f, by omega, ?_, ?_⟩
    · show sAll N (nI x) k + sFeelL N (nI x) k = _
      rw [h2, f2, nI_add]
    · intro j v hj hv e
      by_cases hjk : j = k
      · rw [hjk, f2] at e
        have := (nI_eqI (by omega) (by omega)).mp e
        omega
      · have := h3 j v (by omega) hv e
        omega
theorem share_h0 {N : WS} (hN : NOk N) {x s : Nat} (hx : x < 6) (hs : s < 8) (hv : sLiv N (nI s) = true) : ¬ sFelt N (nI x) (nI s) = 0 → ¬ sAll N (nI x) 8 = 0 := by
  intro h0 z
  obtain ⟨m, h1, h2, h3⟩ := all_n hN hx 8 (Nat.le_refl 8)
  obtain ⟨f, f1, f2⟩ := felt_n hN hx hs
  have hf : sFeelL N (nI x) s = nI f := by unfold sFeelL; rw [if_pos hv, f2]
  have := h3 s f hs f1 hf
  rw [h2] at z
  have hm : m = 0 := (nI_eqI (by omega) (by decide)).mp z
  exact h0 (by rw [f2, show f = 0 by omega]; rfl)
theorem share_eq {N : WS} (hN : NOk N) {x s : Nat} (hx : x < 6) (hs : s < 8) (hv : sLiv N (nI s) = true) : cShr N (nI x) (nI s) = if sFelt N (nI x) (nI s) = 0 then 0 else sShare N (nI x) (nI s) := by
  unfold cShr
  rw [if_pos (box_of hx), if_pos hv]
  by_cases h : sFelt N (nI x) (nI s) = 0
  · rw [if_pos h]; unfold sShare; rw [if_pos (Or.inl h)]
  · rw [if_neg h]
theorem onr {N : WS} {x s : Int32} (hn : (sBox x && sLiv N s) = false) : cOnly N x s = -1 ∧ cShr N x s = -1 := by
  unfold cOnly cShr
  cases hb : sBox x
  · exact ⟨rfl, rfl⟩
  · rw [hb, Bool.true_and] at hn
    rw [hn]; exact ⟨rfl, rfl⟩
