/-- a world of the class beside a world of the reference -/
def SR (N : WS) (si : Nat → Int32) (sg : Int32) (g : Nat) : Prop := g ≤ 8 ∧ wsg N = nI g ∧ sg = nI g ∧ (∀ i, i < g → si (2 * i) = wsm N i ∧ si (2 * i + 1) = b2i (sBit (wop N) (nI i))) ∧ SMk N g ∧ ∃ a, a < 2 ^ g ∧ wop N = nI a
def WR (N : WS) (b wn hi si : Nat → Int32) (sg : Int32) : Prop := RN N b ∧ (∀ j, j < 6 → wn j = wwn N j ∧ hi j = whi N j) ∧ ∃ g, SR N si sg g
theorem WR.cg {N N2 : WS} {b b2 wn wn2 hi hi2 si si2 : Nat → Int32} {sg sg2 : Int32} (hE : WE N N2) (hb : ∀ y, y < 96 → b2 y = b y) (hw : ∀ y, y < 6 → wn2 y = wn y ∧ hi2 y = hi y) (hs : ∀ y, y < 16 → si2 y = si y) (hg : sg2 = sg) (h : WR N b wn hi si sg) : WR N2 b2 wn2 hi2 si2 sg2 := by
  obtain ⟨h1, h2, g, g1, g2, g3, g4, g5, g6⟩ := h
  obtain ⟨w1, w2, w3, w4, w5, w6, w7⟩ := id hE
  refine ⟨h1.cg hE hb, fun j hj => ?_, g, g1, by rw [w3]; exact g2, by rw [hg]; exact g3, fun i hi => ?_, fun i hi => ?_, ?_⟩
  · rw [(hw j hj).1, (hw j hj).2, (w7 j hj).1, (w7 j hj).2.1]; exact h2 j hj
  · rw [hs _ (by omega), hs _ (by omega), (w5 i (by omega)).2.2.2, w4]; exact g4 i hi
  · rw [(w5 i (by omega)).2.2.2]; exact g5 i hi
  · rw [w4]; exact g6
theorem WR.tk {N T : WS} {b b2 wn hi si : Nat → Int32} {sg : Int32} (hk : TK N T) (hr : RN T b2) (h : WR N b wn hi si sg) : WR T b2 wn hi si sg := by
  obtain ⟨h1, h2, g, g1, g2, g3, g4, g5, g6⟩ := h
  obtain ⟨k1, k2, k3, k4⟩ := hk
  refine ⟨hr, fun j hj => ?_, g, g1, by rw [k1]; exact g2, g3, fun i hi => ?_, fun i hi => ?_, ?_⟩
  · rw [(k4 j hj).1, (k4 j hj).2]; exact h2 j hj
  · rw [k3 i (by omega), k2]; exact g4 i hi
  · rw [k3 i (by omega)]; exact g5 i hi
  · rw [k2]; exact g6
theorem WE.rf (N : WS) : WE N N := ⟨rfl, rfl, rfl, rfl, fun _ _ => ⟨rfl, rfl, rfl, rfl⟩, fun _ _ => rfl, fun _ _ => ⟨rfl, rfl, rfl⟩⟩
/-- sights -/
theorem seen_ok {N : WS} {b wn hi si : Nat → Int32} {g q : Nat} {o : Int32} (hq : q ≤ 255) (h1 : RN N b) (h2 : ∀ j, j < 6 → wn j = wwn N j ∧ hi j = whi N j) (hS : SR N si (nI g) g) (hg : g < 8) : WR (sAddS N (nI q) o) b wn hi (upd (upd si (2 * g) (nI q)) (2 * g + 1) (if o = 0 then 0 else 1)) (nI g + 1) := by
  obtain ⟨g1, g2, g3, g4, g5, a, a1, a2⟩ := hS
  have hlt : wsg N < 8 := by rw [g2]; exact (nI_ltI (b := 8) (by omega) (by decide)).mpr hg
  have e : sAddS N (nI q) o = (wlv N, wyr N, wsg N + 1, wop N ||| (if o = 0 then (0 : Int32) else 1 <<< (wsg N &&& 31)), wmk N, wpu N, wwa N, wde N, wwn N, whi N, wco N, upd (wsm N) (wsg N).toNatClampNeg (nI q)) := by
    unfold sAddS; rw [if_pos hlt]
  have ha : a < 256 := Nat.lt_of_lt_of_le a1 (Nat.pow_le_pow_right (n := 2) (by decide) (show g ≤ 8 by omega))
  have hop : ∃ a', a' < 2 ^ (g + 1) ∧ wop (sAddS N (nI q) o) = nI a' ∧ ∀ i, a'.testBit i = (a.testBit i || (!decide (o = 0) && decide (g = i))) := by
    rw [e]
    show ∃ a', a' < 2 ^ (g + 1) ∧ wop N ||| (if o = 0 then (0 : Int32) else 1 <<< (wsg N &&& 31)) = nI a' ∧ _
    rw [a2, g2]
    by_cases ho : o = 0
    · refine ⟨a, Nat.lt_of_lt_of_le a1 (Nat.pow_le_pow_right (n := 2) (by decide) (by omega)), by rw [if_pos ho, or_0], fun i => ?_⟩
      rw [decide_eq_true ho, Bool.not_true, Bool.false_and, Bool.or_false]
    · refine ⟨a ||| 2 ^ g, Nat.or_lt_two_pow (Nat.lt_of_lt_of_le a1 (Nat.pow_le_pow_right (n := 2) (by decide) (by omega))) (Nat.pow_lt_pow_right (by decide) (by omega)), by rw [if_neg ho, shl_nI g hg, nI_or], fun i => ?_⟩
      rw [decide_eq_false ho, Bool.not_false, Bool.true_and, Nat.testBit_or, Nat.testBit_two_pow]
  obtain ⟨a', b1, b2, b3⟩ := hop
  have ha' : a' < 256 := Nat.lt_of_lt_of_le b1 (Nat.pow_le_pow_right (n := 2) (by decide) (show g + 1 ≤ 8 by omega))
  have hsm : ∀ y, wsm (sAddS N (nI q) o) y = if y = g then nI q else wsm N y := fun y => by
    rw [e]
    show upd (wsm N) (wsg N).toNatClampNeg (nI q) y = _
    rw [g2, cl8 (by omega)]; rfl
  refine ⟨?_, fun j hj => ?_, g + 1, by omega, ?_, (nI_succ g).symm, fun i hi => ?_, fun i hi => ?_, a', b1, b2⟩
  · rw [e]; exact h1
  · rw [e]; exact h2 j hj
  · rw [e]
    show wsg N + 1 = _
    rw [g2, nI_succ]
  · rw [hsm, b2, bit_nI a' ha' i (by omega), b3]
    by_cases hig : i = g
    · subst hig
      rw [pk_un (by omega), pk_us, pk_us, if_pos rfl, Nat.testBit_lt_two_pow a1, Bool.false_or, decide_eq_true rfl, Bool.and_true]
      refine ⟨rfl, ?_⟩
      by_cases ho : o = 0
      · rw [if_pos ho, decide_eq_true ho]; rfl
      · rw [if_neg ho, decide_eq_false ho]; rfl
    · rw [pk_un (by omega), pk_un (by omega), pk_un (by omega), pk_un (by omega), if_neg hig, decide_eq_false (show ¬ g = i from fun z => hig z.symm), Bool.and_false, Bool.or_false]
      have := g4 i (by omega)
      rw [a2, bit_nI a ha i (by omega)] at this
      exact this
  · rw [hsm]
    split
    · exact ⟨q, by omega, rfl⟩
    · exact g5 i (by omega)
theorem forget_ok {N : WS} {b wn hi si : Nat → Int32} {sg : Int32} (h : WR N b wn hi si sg) : WR (sop (ssg N 0) 0) b wn hi si 0 := by
  obtain ⟨h1, h2, -⟩ := h
  exact ⟨h1, h2, 0, by decide, rfl, rfl, fun i hi => absurd hi (by omega), fun i hi => absurd hi (by omega), 0, by decide, rfl⟩
/-- images -/
theorem fill_at (o : Nat) (v f : Nat → Int32) : ∀ n y, iter (fun j f => upd f (o + j) (v j)) n f y = if o ≤ y ∧ y < o + n then v (y - o) else f y
  | 0, y => by rw [if_neg (by omega), ← iter_0]
  | n + 1, y => by
    rw [iter_s]
    by_cases h : y = o + n
    · rw [h, pk_us, if_pos (by omega), Nat.add_sub_cancel_left]
    · rw [pk_un h, fill_at o v f n y]
      by_cases h2 : o ≤ y ∧ y < o + n
      · rw [if_pos h2, if_pos (by omega)]
      · rw [if_neg h2, if_neg (by omega)]
theorem fill_0 (v f : Nat → Int32) : ∀ n y, iter (fun j f => upd f j (v j)) n f y = if y < n then v y else f y
  | 0, y => by rw [if_neg (by omega), ← iter_0]
  | n + 1, y => by
    rw [iter_s]
    by_cases h : y = n
    · rw [h, pk_us, if_pos (by omega)]
    · rw [pk_un h, fill_0 v f n y]
      by_cases h2 : y < n
      · rw [if_pos h2, if_pos (by omega)]
      · rw [if_neg h2, if_neg (by omega)]
theorem fill_2 (o : Nat) (v w f : Nat → Int32) : ∀ n, n ≤ 6 → ∀ y, iter (fun j f => upd (upd f (o + 96 + j) (v j)) (o + 102 + j) (w j)) n f y = if o + 96 ≤ y ∧ y < o + 96 + n then v (y - (o + 96)) else if o + 102 ≤ y ∧ y < o + 102 + n then w (y - (o + 102)) else f y
  | 0, _, y => by rw [if_neg (by omega), if_neg (by omega), ← iter_0]
  | n + 1, hn, y => by
    rw [iter_s]
    by_cases h : y = o + 102 + n
    · rw [h, pk_us, if_neg (by omega), if_pos (by omega), Nat.add_sub_cancel_left]
    · rw [pk_un h]
      by_cases h1 : y = o + 96 + n
      · rw [h1, pk_us, if_pos (by omega), Nat.add_sub_cancel_left]
      · rw [pk_un h1, fill_2 o v w f n (by omega) y]
        by_cases h2 : o + 96 ≤ y ∧ y < o + 96 + n
        · rw [if_pos h2, if_pos (by omega)]
        · rw [if_neg h2, if_neg (show ¬ (o + 96 ≤ y ∧ y < o + 96 + (n + 1)) by omega)]
          by_cases h3 : o + 102 ≤ y ∧ y < o + 102 + n
          · rw [if_pos h3, if_pos (by omega)]
          · rw [if_neg h3, if_neg (by omega)]
theorem imD_at (M : MS) (o y : Nat) : imD M o y = if y = o + 124 then msg M else if o + 108 ≤ y ∧ y < o + 124 then msi M (y - (o + 108)) else if o + 96 ≤ y ∧ y < o + 102 then mwn M (y - (o + 96)) else if o + 102 ≤ y ∧ y < o + 108 then mhi M (y - (o + 102)) else if o ≤ y ∧ y < o + 96 then mbk M (y - o) else mim M y := by
  unfold imD
  by_cases h : y = o + 124
  · rw [h, pk_us, if_pos rfl]
  · rw [pk_un h, if_neg h]
    unfold imC
    rw [fill_at (o + 108) (msi M)]
    by_cases h1 : o + 108 ≤ y ∧ y < o + 124
    · rw [if_pos (by omega), if_pos h1]
    · rw [if_neg (by omega), if_neg h1]
      unfold imB
      rw [fill_2 o (mwn M) (mhi M) _ 6 (Nat.le_refl 6)]
      by_cases h2 : o + 96 ≤ y ∧ y < o + 102
      · rw [if_pos (by omega), if_pos h2]
      · rw [if_neg (by omega), if_neg h2]
        by_cases h3 : o + 102 ≤ y ∧ y < o + 108
        · rw [if_pos (by omega), if_pos h3]
        · rw [if_neg (by omega), if_neg h3]
          unfold imA
          rw [fill_at o (mbk M)]
def RIm (f : Nat → Int32) (k : Nat) (S : WS) : Prop := WR S (fun y => f (130 * k + y)) (fun y => f (130 * k + 96 + y)) (fun y => f (130 * k + 102 + y)) (fun y => f (130 * k + 108 + y)) (f (130 * k + 124))
theorem img_same {M : MS} {N S : WS} {k : Nat} (hE : WE N S) (h : WR N (mbk M) (mwn M) (mhi M) (msi M) (msg M)) : RIm (imD M (130 * k)) k S := by
  refine h.cg hE (fun y hy => ?_) (fun y hy => ⟨?_, ?_⟩) (fun y hy => ?_) ?_
  · show imD M (130 * k) (130 * k + y) = _
    rw [imD_at, if_neg (by omega), if_neg (by omega), if_neg (by omega), if_neg (by omega), if_pos (by omega), Nat.add_sub_cancel_left]
  · show imD M (130 * k) (130 * k + 96 + y) = _
    rw [imD_at, if_neg (by omega), if_neg (by omega), if_pos (by omega), Nat.add_sub_cancel_left]
  · show imD M (130 * k) (130 * k + 102 + y) = _
    rw [imD_at, if_neg (by omega), if_neg (by omega), if_neg (by omega), if_pos (by omega), Nat.add_sub_cancel_left]
  · show imD M (130 * k) (130 * k + 108 + y) = _
    rw [imD_at, if_neg (by omega), if_pos (by omega), Nat.add_sub_cancel_left]
  · rw [imD_at, if_pos rfl]
theorem imD_far {M : MS} {k k2 y : Nat} (hk : k < 2) (hk2 : k2 < 2) (hne : k2 ≠ k) (hy : y < 125) : imD M (130 * k) (130 * k2 + y) = mim M (130 * k2 + y) := by
  rw [imD_at, if_neg (by omega), if_neg (by omega), if_neg (by omega), if_neg (by omega), if_neg (by omega)]
theorem img_other {M : MS} {S : WS} {k k2 : Nat} (hk : k < 2) (hk2 : k2 < 2) (hne : k2 ≠ k) (h : RIm (mim M) k2 S) : RIm (imD M (130 * k)) k2 S := by
  refine WR.cg (WE.rf S) (fun y hy => ?_) (fun y hy => ⟨?_, ?_⟩) (fun y hy => ?_) ?_ h
  · exact imD_far hk hk2 hne (by omega)
  · show imD M (130 * k) (130 * k2 + 96 + y) = mim M (130 * k2 + 96 + y)
    rw [Nat.add_assoc]; exact imD_far hk hk2 hne (by omega)
  · show imD M (130 * k) (130 * k2 + 102 + y) = mim M (130 * k2 + 102 + y)
    rw [Nat.add_assoc]; exact imD_far hk hk2 hne (by omega)
  · show imD M (130 * k) (130 * k2 + 108 + y) = mim M (130 * k2 + 108 + y)
    rw [Nat.add_assoc]; exact imD_far hk hk2 hne (by omega)
  · exact imD_far hk hk2 hne (by omega)
theorem res_ok {M : MS} {N S : WS} {k : Nat} (h : RIm (mim M) k S) : WR (sCpy N S) (mbk (mRes M k)) (mwn (mRes M k)) (mhi (mRes M k)) (msi (mRes M k)) (msg (mRes M k)) := by
  refine WR.cg (WE.cpy N S) (fun y hy => ?_) (fun y hy => ⟨?_, ?_⟩) (fun y hy => ?_) rfl h
  · show reA M (130 * k) 96 y = _
    unfold reA
    rw [fill_0 (fun j => mim M (130 * k + j)), if_pos hy]
  · show reW M (130 * k) 6 y = _
    unfold reW
    rw [fill_0 (fun j => mim M (130 * k + 96 + j)), if_pos hy]
  · show reH M (130 * k) 6 y = _
    unfold reH
    rw [fill_0 (fun j => mim M (130 * k + 102 + j)), if_pos hy]
  · show reS M (130 * k) 16 y = _
    unfold reS
    rw [fill_0 (fun j => mim M (130 * k + 108 + j)), if_pos hy]
/-- where the images lie -/
def Sh (im : Nat → Option Nat) (u : PH) (Im : Nat → WS) : Prop :=
  (im 0 = none ∧ im 1 = none ∧ u = []) ∨ (im 0 = some 39 ∧ im 1 = none ∧ u = wc 39 (Im 0)) ∨ (im 0 = none ∧ im 1 = some 39 ∧ u = wc 39 (Im 1)) ∨ (im 0 = some 39 ∧ im 1 = some 48 ∧ u = wc 39 (Im 0) ++ wc 48 (Im 1)) ∨ (im 0 = some 48 ∧ im 1 = some 39 ∧ u = wc 39 (Im 1) ++ wc 48 (Im 0))
theorem wc_len (b : Nat) (S : WS) : (wc b S).length = 9 := rfl
theorem Sh.len {im : Nat → Option Nat} {u : PH} {Im : Nat → WS} (h : Sh im u Im) : u.length ≤ 18 := by
  rcases h with ⟨-, -, rfl⟩ | ⟨-, -, rfl⟩ | ⟨-, -, rfl⟩ | ⟨-, -, rfl⟩ | ⟨-, -, rfl⟩
  · exact Nat.zero_le 18
  · rw [wc_len]; decide
  · rw [wc_len]; decide
  · rw [List.length_append, wc_len, wc_len]; decide
  · rw [List.length_append, wc_len, wc_len]; decide
theorem Sh.at {im : Nat → Option Nat} {u : PH} {Im : Nat → WS} (h : Sh im u Im) {k b : Nat} (hk : k < 2) (hb : im k = some b) : ∃ t1 t2, u = t1 ++ (wc b (Im k) ++ t2) ∧ t1.length + 39 = b ∧ ∀ S, Sh im (t1 ++ (wc b S ++ t2)) (va_up Im k S) ∧ (t1 ++ (wc b S ++ t2)).length = u.length := by
  have n1 : ∀ S, va_up Im 0 S 1 = Im 1 := fun S => va_up_ne _ _ (by decide)
  have n0 : ∀ S, va_up Im 1 S 0 = Im 0 := fun S => va_up_ne _ _ (by decide)
  rcases (show k = 0 ∨ k = 1 by omega) with rfl | rfl
  · rcases h with ⟨h0, h1, rfl⟩ | ⟨h0, h1, rfl⟩ | ⟨h0, h1, rfl⟩ | ⟨h0, h1, rfl⟩ | ⟨h0, h1, rfl⟩
    · rw [h0] at hb; cases hb
    · rw [h0] at hb; cases hb
      refine ⟨[], [], by simp, rfl, fun S => ⟨Or.inr (Or.inl ⟨h0, h1, by rw [va_up_self]; simp⟩), by simp [wc_len]⟩⟩
    · rw [h0] at hb; cases hb
    · rw [h0] at hb; cases hb
      refine ⟨[], wc 48 (Im 1), by simp, rfl, fun S => ⟨Or.inr (Or.inr (Or.inr (Or.inl ⟨h0, h1, by rw [va_up_self, n1]; simp⟩))), by simp [wc_len]⟩⟩
    · rw [h0] at hb; cases hb
      refine ⟨wc 39 (Im 1), [], by simp, rfl, fun S => ⟨Or.inr (Or.inr (Or.inr (Or.inr ⟨h0, h1, by rw [va_up_self, n1]; simp⟩))), by simp [wc_len]⟩⟩
  · rcases h with ⟨h0, h1, rfl⟩ | ⟨h0, h1, rfl⟩ | ⟨h0, h1, rfl⟩ | ⟨h0, h1, rfl⟩ | ⟨h0, h1, rfl⟩
    · rw [h1] at hb; cases hb
    · rw [h1] at hb; cases hb
    · rw [h1] at hb; cases hb
      refine ⟨[], [], by simp, rfl, fun S => ⟨Or.inr (Or.inr (Or.inl ⟨h0, h1, by rw [va_up_self]; simp⟩)), by simp [wc_len]⟩⟩
    · rw [h1] at hb; cases hb
      refine ⟨wc 39 (Im 0), [], by simp, rfl, fun S => ⟨Or.inr (Or.inr (Or.inr (Or.inl ⟨h0, h1, by rw [va_up_self, n0]; simp⟩))), by simp [wc_len]⟩⟩
    · rw [h1] at hb; cases hb
      refine ⟨[], wc 48 (Im 0), by simp, rfl, fun S => ⟨Or.inr (Or.inr (Or.inr (Or.inr ⟨h0, h1, by rw [va_up_self, n0]; simp⟩))), by simp [wc_len]⟩⟩
theorem Sh.add {im : Nat → Option Nat} {u : PH} {Im : Nat → WS} (h : Sh im u Im) {k q : Nat} (hk : k < 2) (hb : im k = none) (hq : 39 + u.length = q) (S : WS) : Sh (va_up im k (some q)) (u ++ wc q S) (va_up Im k S) := by
  have n1 : va_up Im 0 S 1 = Im 1 := va_up_ne _ _ (by decide)
  have n0 : va_up Im 1 S 0 = Im 0 := va_up_ne _ _ (by decide)
  have m1 : va_up im 0 (some q) 1 = im 1 := va_up_ne _ _ (by decide)
  have m0 : va_up im 1 (some q) 0 = im 0 := va_up_ne _ _ (by decide)
  rcases (show k = 0 ∨ k = 1 by omega) with rfl | rfl
  · unfold Sh
    rw [va_up_self, va_up_self, n1, m1]
    rcases h with ⟨h0, h1, rfl⟩ | ⟨h0, h1, rfl⟩ | ⟨h0, h1, rfl⟩ | ⟨h0, h1, rfl⟩ | ⟨h0, h1, rfl⟩
    · subst hq; exact Or.inr (Or.inl ⟨rfl, h1, rfl⟩)
    · rw [h0] at hb; cases hb
    · subst hq; exact Or.inr (Or.inr (Or.inr (Or.inr ⟨rfl, h1, rfl⟩)))
    · rw [h0] at hb; cases hb
    · rw [h0] at hb; cases hb
  · unfold Sh
    rw [va_up_self, va_up_self, n0, m0]
    rcases h with ⟨h0, h1, rfl⟩ | ⟨h0, h1, rfl⟩ | ⟨h0, h1, rfl⟩ | ⟨h0, h1, rfl⟩ | ⟨h0, h1, rfl⟩
    · subst hq; exact Or.inr (Or.inr (Or.inl ⟨h0, rfl, rfl⟩))
    · subst hq; exact Or.inr (Or.inr (Or.inr (Or.inl ⟨h0, rfl, rfl⟩)))
    · rw [h1] at hb; cases hb
    · rw [h1] at hb; cases hb
    · rw [h1] at hb; cases hb
