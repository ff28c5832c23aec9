set_option maxRecDepth 100000 in
set_option maxHeartbeats 4000000 in
theorem pm_X6_seen {l : Launch} {D : va_G} {N T : WS} {im : Nat → Option Nat} {ps mo op : Nat → Int32} {pn ta tb tw tp tn ka kf ks kc tot : Int32} {t : PH} {q o : Int32} (hg : 0 ≤ wsg N) : PM l D YX6_seen 2 [.ref 0, .int q, .int o] (XH N im ps pn T ta tb tw tp tn ka kf ks kc mo op tot t) 0 0 (some (.int (cSeeR N q o))) (XH (cSeeN N q o) im ps pn T ta tb tw tp tn ka kf ks kc mo op tot t) := by
  refine pm_of2 (n0 := (t.length + 28)) kb_YX6_seen rfl [some (.ref 0), some (.int q), some (.int o)] (fun _ => rfl) (fun _ => (Nat.le_of_ble_eq_true rfl)) ?_
  by_cases h8 : wsg N < 8
  · skip
    refine w_iload_n dX6_seen_0 rfl ?_
    refine w_iconst (v := 0) dX6_seen_1 (by decide) ?_
    refine w_sipush (v := 255) dX6_seen_2 (by decide) ?_
    refine w_callSr dX6_seen_5 k_X6_52 (pm_X6_isWithin) rfl rfl (Nat.le_of_ble_eq_true rfl) (Nat.le_of_ble_eq_true rfl) (Nat.le_of_ble_eq_true rfl) (rc00 rfl (Nat.le_refl 0)) ?_
    refine w_zif_ne (tgt := 14) dX6_seen_8 (by decide) (fun c_8 => ?_) (fun c_8 => ?_)
    · skip
      refine w_aload_n dX6_seen_14 rfl ?_
      refine w_get dX6_seen_15 f_X6_10 rfl rfl ?_
      refine w_iload_n dX6_seen_18 rfl ?_
      refine w_iload_n dX6_seen_19 rfl ?_
      refine w_callVr dX6_seen_20 k_X6_179 (xN_addSight hg) rfl rfl rfl rfl (Nat.le_of_ble_eq_true rfl) (Nat.le_of_ble_eq_true rfl) (Nat.le_of_ble_eq_true rfl) (rc00 rfl (Nat.le_refl 0)) ?_
      refine w_zif_eq_f dX6_seen_23 ⟨36, by decide⟩ (by simp [h8]) ?_
      refine w_aload_n dX6_seen_26 rfl ?_
      refine w_get dX6_seen_27 f_X6_10 rfl rfl ?_
      refine w_get dX6_seen_30 f_X6_183 rfl rfl ?_
      refine w_goto (tgt := 38) dX6_seen_33 (by decide) ?_
      exact w_iret dX6_seen_38 rfl (by first | (simp only [cSeeR, if_pos h8, c_8, if_true]; done) | (simp only [cSeeR, c_8, Bool.false_eq_true, if_false]; done)) (by simp only [cSeeN, if_pos, if_neg, not_false_eq_true, if_true, if_false, Bool.false_eq_true, c_8]; try rfl) rfl (Nat.le_refl 0)
    · skip
      refine w_bipush (v := (-2)) dX6_seen_11 (by decide) ?_
      exact w_iret dX6_seen_13 rfl (by first | (simp only [cSeeR, if_pos h8, c_8, if_true]; done) | (simp only [cSeeR, c_8, Bool.false_eq_true, if_false]; done)) (by simp only [cSeeN, if_pos, if_neg, not_false_eq_true, if_true, if_false, Bool.false_eq_true, c_8]; try rfl) rfl (Nat.le_refl 0)
  refine w_iload_n dX6_seen_0 rfl ?_
  refine w_iconst (v := 0) dX6_seen_1 (by decide) ?_
  refine w_sipush (v := 255) dX6_seen_2 (by decide) ?_
  refine w_callSr dX6_seen_5 k_X6_52 (pm_X6_isWithin) rfl rfl (Nat.le_of_ble_eq_true rfl) (Nat.le_of_ble_eq_true rfl) (Nat.le_of_ble_eq_true rfl) (rc00 rfl (Nat.le_refl 0)) ?_
  refine w_zif_ne (tgt := 14) dX6_seen_8 (by decide) (fun c_8 => ?_) (fun c_8 => ?_)
  · skip
    refine w_aload_n dX6_seen_14 rfl ?_
    refine w_get dX6_seen_15 f_X6_10 rfl rfl ?_
    refine w_iload_n dX6_seen_18 rfl ?_
    refine w_iload_n dX6_seen_19 rfl ?_
    refine w_callVr dX6_seen_20 k_X6_179 (xN_addSight hg) rfl rfl rfl rfl (Nat.le_of_ble_eq_true rfl) (Nat.le_of_ble_eq_true rfl) (Nat.le_of_ble_eq_true rfl) (rc00 rfl (Nat.le_refl 0)) ?_
    refine w_zif_eq_t (tgt := 36) dX6_seen_23 (by decide) (by simp [h8]) ?_
    refine w_bipush (v := (-4)) dX6_seen_36 (by decide) ?_
    exact w_iret dX6_seen_38 rfl (by first | (simp only [cSeeR, if_neg h8, c_8, if_true]; done) | (simp only [cSeeR, c_8, Bool.false_eq_true, if_false]; done)) (by simp only [cSeeN, if_pos, if_neg, not_false_eq_true, if_true, if_false, Bool.false_eq_true, c_8]; try rfl) rfl (Nat.le_refl 0)
  · skip
    refine w_bipush (v := (-2)) dX6_seen_11 (by decide) ?_
    exact w_iret dX6_seen_13 rfl (by first | (simp only [cSeeR, if_neg h8, c_8, if_true]; done) | (simp only [cSeeR, c_8, Bool.false_eq_true, if_false]; done)) (by simp only [cSeeN, if_pos, if_neg, not_false_eq_true, if_true, if_false, Bool.false_eq_true, c_8]; try rfl) rfl (Nat.le_refl 0)

set_option maxRecDepth 100000 in
set_option maxHeartbeats 4000000 in
theorem pm_X6_forget {l : Launch} {D : va_G} {N T : WS} {im : Nat → Option Nat} {ps mo op : Nat → Int32} {pn ta tb tw tp tn ka kf ks kc tot : Int32} {t : PH}  : PM l D YX6_forget 1 [.ref 0] (XH N im ps pn T ta tb tw tp tn ka kf ks kc mo op tot t) 0 0 (some (.int (wsg N))) (XH (sop (ssg N 0) 0) im ps pn T ta tb tw tp tn ka kf ks kc mo op tot t) := by
  refine pm_of2 (n0 := (t.length + 28)) kb_YX6_forget rfl [some (.ref 0), none] (fun _ => rfl) (fun _ => (Nat.le_of_ble_eq_true rfl)) ?_
  refine w_aload_n dX6_forget_0 rfl ?_
  refine w_get dX6_forget_1 f_X6_10 rfl rfl ?_
  refine w_get dX6_forget_4 f_X6_183 rfl rfl ?_
  refine w_istore_1 dX6_forget_7 (Nat.le_of_ble_eq_true rfl) rfl ?_
  refine w_aload_n dX6_forget_8 rfl ?_
  refine w_get dX6_forget_9 f_X6_10 rfl rfl ?_
  refine w_iconst (v := 0) dX6_forget_12 (by decide) ?_
  refine x_pN2 dX6_forget_13 f_X6_183 ?_
  refine w_aload_n dX6_forget_16 rfl ?_
  refine w_get dX6_forget_17 f_X6_10 rfl rfl ?_
  refine w_iconst (v := 0) dX6_forget_20 (by decide) ?_
  refine x_pN3 dX6_forget_21 f_X6_186 ?_
  refine w_iload_n dX6_forget_24 rfl ?_
  exact w_iret dX6_forget_25 rfl rfl rfl rfl (Nat.le_refl 0)

set_option maxRecDepth 100000 in
set_option maxHeartbeats 4000000 in
theorem pm_X6_laws {l : Launch} {D : va_G} {N T : WS} {im : Nat → Option Nat} {ps mo op : Nat → Int32} {pn ta tb tw tp tn ka kf ks kc tot : Int32} {t : PH} {g : Nat} (hg : g ≤ 8) (hs : wsg N = nI g) {i : Int32} : PM l D YX6_laws 5 [.ref 0, .int i] (XH N im ps pn T ta tb tw tp tn ka kf ks kc mo op tot t) 0 0 (some (.int (cLaw N g i))) (XH N im ps pn T ta tb tw tp tn ka kf ks kc mo (if i = -1 then wlO N g 255 (zO 8 op) else op) (if i = -1 then wlT N g 255 0 else tot) t) := by
  refine pm_of2 (n0 := (t.length + 28)) kb_YX6_laws rfl [some (.ref 0), some (.int i)] (fun _ => rfl) (fun _ => (Nat.le_of_ble_eq_true rfl)) ?_
  refine w_iload_n dX6_laws_0 rfl ?_
  refine w_iconst (v := (-1)) dX6_laws_1 (by decide) ?_
  refine w_icmp_ne (tgt := 19) dX6_laws_2 (by decide) (fun c_2 => ?_) (fun c_2 => ?_)
  · skip
    refine w_aload_n dX6_laws_19 rfl ?_
    refine w_get dX6_laws_20 f_X6_44 rfl rfl ?_
    refine w_aload_n dX6_laws_23 rfl ?_
    refine w_get dX6_laws_24 f_X6_10 rfl rfl ?_
    refine w_iload_n dX6_laws_27 rfl ?_
    refine w_callVr dX6_laws_28 k_X6_193 (pm_X1_lawAt hg hs) rfl rfl rfl rfl (Nat.le_of_ble_eq_true rfl) (Nat.le_of_ble_eq_true rfl) (Nat.le_of_ble_eq_true rfl) (rc00 rfl (Nat.le_refl 0)) ?_
    exact w_iret dX6_laws_31 rfl (by simp only [cLaw, if_pos, if_neg, not_false_eq_true, if_true, if_false, Bool.false_eq_true, c_2]; try rfl) (by simp only [if_pos, if_neg, not_false_eq_true, c_2]) rfl (Nat.le_refl 0)
  · skip
    refine w_aload_n dX6_laws_5 rfl ?_
    refine w_get dX6_laws_6 f_X6_44 rfl rfl ?_
    refine w_aload_n dX6_laws_9 rfl ?_
    refine w_get dX6_laws_10 f_X6_10 rfl rfl ?_
    refine w_callVr dX6_laws_13 k_X6_189 (pm_X1_howMany hg hs) rfl rfl rfl rfl (Nat.le_of_ble_eq_true rfl) (Nat.le_of_ble_eq_true rfl) (Nat.le_of_ble_eq_true rfl) (rc00 rfl (Nat.le_refl 0)) ?_
    refine w_goto (tgt := 31) dX6_laws_16 (by decide) ?_
    exact w_iret dX6_laws_31 rfl (by simp only [cLaw, if_pos, if_neg, not_false_eq_true, if_true, if_false, Bool.false_eq_true, c_2]; try rfl) (by simp only [if_pos, if_neg, not_false_eq_true, c_2]) rfl (Nat.le_refl 0)

set_option maxRecDepth 100000 in
set_option maxHeartbeats 4000000 in
theorem pm_X6_next {l : Launch} {D : va_G} {N T : WS} {im : Nat → Option Nat} {ps mo op : Nat → Int32} {pn ta tb tw tp tn ka kf ks kc tot : Int32} {t : PH} {g : Nat} (hg : g ≤ 8) (hs : wsg N = nI g) {w : Int32} : PM l D YX6_next 4 [.ref 0, .int w] (XH N im ps pn T ta tb tw tp tn ka kf ks kc mo op tot t) 0 0 (some (.int (cNxt N g op w))) (XH N im ps pn T ta tb tw tp tn ka kf ks kc mo (if sIn w 0 1 then wlO N g 255 (zO 8 op) else op) (if sIn w 0 1 then wlT N g 255 0 else tot) t) := by
  refine pm_of2 (n0 := (t.length + 28)) kb_YX6_next rfl [some (.ref 0), some (.int w), none] (fun _ => rfl) (fun _ => (Nat.le_of_ble_eq_true rfl)) ?_
  refine w_iload_n dX6_next_0 rfl ?_
  refine w_iconst (v := 0) dX6_next_1 (by decide) ?_
  refine w_iconst (v := 1) dX6_next_2 (by decide) ?_
  refine w_callSr dX6_next_3 k_X6_52 (pm_X6_isWithin) rfl rfl (Nat.le_of_ble_eq_true rfl) (Nat.le_of_ble_eq_true rfl) (Nat.le_of_ble_eq_true rfl) (rc00 rfl (Nat.le_refl 0)) ?_
  refine w_zif_ne (tgt := 12) dX6_next_6 (by decide) (fun c_6 => ?_) (fun c_6 => ?_)
  · skip
    refine w_aload_n dX6_next_12 rfl ?_
    refine w_get dX6_next_13 f_X6_44 rfl rfl ?_
    refine w_aload_n dX6_next_16 rfl ?_
    refine w_get dX6_next_17 f_X6_10 rfl rfl ?_
    refine w_callVv dX6_next_20 k_X6_196 (pm_X1_weigh hg hs) rfl rfl rfl rfl (Nat.le_of_ble_eq_true rfl) (Nat.le_of_ble_eq_true rfl) (Nat.le_of_ble_eq_true rfl) (rc00 rfl (Nat.le_refl 0)) ?_
    refine w_aload_n dX6_next_23 rfl ?_
    refine w_get dX6_next_24 f_X6_44 rfl rfl ?_
    refine w_aload_n dX6_next_27 rfl ?_
    refine w_get dX6_next_28 f_X6_10 rfl rfl ?_
    refine w_callVr dX6_next_31 k_X6_197 (pm_X1_soulToTry) rfl rfl rfl rfl (Nat.le_of_ble_eq_true rfl) (Nat.le_of_ble_eq_true rfl) (Nat.le_of_ble_eq_true rfl) (rc00 rfl (Nat.le_refl 0)) ?_
    refine w_istore_2 dX6_next_34 (Nat.le_of_ble_eq_true rfl) rfl ?_
    refine w_iload_n dX6_next_35 rfl ?_
    refine w_bipush (v := (-6)) dX6_next_36 (by decide) ?_
    refine w_icmp_eq (tgt := 45) dX6_next_38 (by decide) (fun c_38 => ?_) (fun c_38 => ?_)
    · skip
      refine w_iload_n dX6_next_45 rfl ?_
      exact w_iret dX6_next_46 rfl (by rw [cNxt]; simp only [cNxT, if_pos, if_neg, not_false_eq_true, if_true, if_false, Bool.false_eq_true, c_6, c_38]; try rfl) (by first | (rw [if_pos c_6, if_pos c_6]; done) | (simp only [c_6, Bool.false_eq_true, if_false]; done)) rfl (Nat.le_refl 0)
    · skip
      refine w_iload_n dX6_next_41 rfl ?_
      refine w_if_ne (tgt := 47) dX6_next_42 (by decide) (fun c_42 => ?_) (fun c_42 => ?_)
      · skip
        refine w_aload_n dX6_next_47 rfl ?_
        refine w_get dX6_next_48 f_X6_44 rfl rfl ?_
        refine w_iload_n dX6_next_51 rfl ?_
        refine w_callVr dX6_next_52 k_X6_200 (pm_X1_mostLeft) rfl rfl rfl rfl (Nat.le_of_ble_eq_true rfl) (Nat.le_of_ble_eq_true rfl) (Nat.le_of_ble_eq_true rfl) (rc00 rfl (Nat.le_refl 0)) ?_
        exact w_iret dX6_next_55 rfl (by rw [cNxt]; simp only [cNxT, if_pos, if_neg, not_false_eq_true, if_true, if_false, Bool.false_eq_true, c_6, c_38, c_42]; try rfl) (by first | (rw [if_pos c_6, if_pos c_6]; done) | (simp only [c_6, Bool.false_eq_true, if_false]; done)) rfl (Nat.le_refl 0)
      · skip
        refine w_iload_n dX6_next_45 rfl ?_
        exact w_iret dX6_next_46 rfl (by rw [cNxt]; simp only [cNxT, if_pos, if_neg, not_false_eq_true, if_true, if_false, Bool.false_eq_true, c_6, c_38, c_42]; try rfl) (by first | (rw [if_pos c_6, if_pos c_6]; done) | (simp only [c_6, Bool.false_eq_true, if_false]; done)) rfl (Nat.le_refl 0)
  · skip
    refine w_bipush (v := (-2)) dX6_next_9 (by decide) ?_
    exact w_iret dX6_next_11 rfl (by rw [cNxt]; simp only [cNxT, if_pos, if_neg, not_false_eq_true, if_true, if_false, Bool.false_eq_true, c_6]; try rfl) (by first | (rw [if_pos c_6, if_pos c_6]; done) | (simp only [c_6, Bool.false_eq_true, if_false]; done)) rfl (Nat.le_refl 0)

set_option maxRecDepth 100000 in
set_option maxHeartbeats 4000000 in
theorem pm_X6_power {l : Launch} {D : va_G} {h : PH} {v : Int64} {k : Nat} (hk : k < 2 ^ 30) : PM l D YX6_power 1 [.long v, .int (nI k)] h 0 0 (some (.long (lpow v k))) h := by
  refine pm_of2 (n0 := h.length) kb_YX6_power rfl [some (.long v), none, some (.int (nI k)), none, none, none] (fun _ => rfl) (fun _ => (Nat.le_of_ble_eq_true rfl)) ?_
  have loop : ∀ (q i : Nat), i + q = k → Wp l D YX6_power (pRm 1 0 0) h.length (fun _ _ _ => True) (mE D h.length 0 0 (some (.long (lpow v k))) h) 5 [some (.long v), none, some (.int (nI k)), some (.long (lpow v i)), none, some (.int (nI i))] [] h 0 := by
    intro q
    induction q with
    | zero =>
      intro i hi
      have hi : i = k := by omega
      subst hi
      refine w_iload dX6_power_5 rfl ?_
      refine w_iload_n dX6_power_7 rfl ?_
      refine w_icmp_ge_t (tgt := 21) dX6_power_8 (by decide) (Int32.le_refl _) ?_
      refine w_lload_n dX6_power_21 rfl ?_
      exact w_lret dX6_power_22 rfl rfl rfl rfl (Nat.le_refl 0)
    | succ q ih =>
      intro i hi
      refine w_iload dX6_power_5 rfl ?_
      refine w_iload_n dX6_power_7 rfl ?_
      refine w_icmp_ge_f dX6_power_8 ⟨21, by decide⟩ (nI_ge (by omega) (by omega)) ?_
      refine w_lload_n dX6_power_11 rfl ?_
      refine w_lload_n dX6_power_12 rfl ?_
      refine w_lmul dX6_power_13 ?_
      refine w_lstore_3 dX6_power_14 (Nat.le_of_ble_eq_true rfl) rfl ?_
      refine w_iinc_5 (v := 1) dX6_power_15 (by decide) (Nat.le_of_ble_eq_true rfl) rfl ?_
      refine w_goto (tgt := 5) dX6_power_18 (by decide) ?_
      exact w_loc_5 (nI_1 i) (ih (i + 1) (by omega))
  refine w_lconst (v := 1) dX6_power_0 (by decide) ?_
  refine w_lstore_3 dX6_power_1 (Nat.le_of_ble_eq_true rfl) rfl ?_
  refine w_iconst (v := 0) dX6_power_2 (by decide) ?_
  refine w_istore_5 dX6_power_3 (Nat.le_of_ble_eq_true rfl) rfl ?_
  exact loop k 0 (by omega)

theorem i2l_ne {k : Nat} (hk : k < 100) : ¬ (nI k + 1).toInt64 = 0 := by
  rw [nI_1, nI_l (by omega)]
  intro h
  have := (lN_eq (a := k + 1) (b := 0) (by omega) (by decide)).mp h
  omega
theorem lg_0 {x y : Int64} : lg_cmp x y = 0 ↔ x = y := by
  unfold lg_cmp
  by_cases h1 : x > y
  · rw [if_pos h1]
    constructor
    · intro h; exact absurd h (by decide)
    · intro h; subst h; exact absurd h1 (Int64.lt_irrefl)
  · rw [if_neg h1]
    by_cases h2 : x = y
    · rw [if_pos h2]; exact ⟨fun _ => h2, fun _ => rfl⟩
    · rw [if_neg h2]
      exact ⟨fun h => absurd h (by decide), fun h => absurd h h2⟩
theorem bc_lt (x : Int32) : ∃ f, f < 64 ∧ bc x = nI f := pk_andE _ 6 rfl
theorem bc_c (x : Int32) : nI (bc x).toNatClampNeg = bc x := by
  obtain ⟨f, hf, e⟩ := bc_lt x
  rw [e, nI_clamp (by omega)]
theorem bc_c64 (x : Int32) : (bc x).toNatClampNeg < 64 := by
  obtain ⟨f, hf, e⟩ := bc_lt x
  rw [e, nI_clamp (by omega)]; exact hf
set_option maxRecDepth 100000 in
set_option maxHeartbeats 4000000 in
theorem pm_X6_waysToKeep {l : Launch} {D : va_G} {h : PH} {f : Nat} {q : Int32} {a b : Int64} (hf : f < 64) : PM l D YX6_waysToKeep 2 [.int (nI f), .int q, .long a, .long b] h 0 0 (some (.long (wkW f q a b (f + 1)))) h := by
  refine pm_of2 (n0 := h.length) kb_YX6_waysToKeep rfl [some (.int (nI f)), some (.int q), some (.long a), none, some (.long b), none, none, none, none, none, none] (fun _ => rfl) (fun _ => (Nat.le_of_ble_eq_true rfl)) ?_
  have loop : ∀ (n k : Nat), k + n = f + 1 → Wp l D YX6_waysToKeep (pRm 2 0 0) h.length (fun _ _ _ => True) (mE D h.length 0 0 (some (.long (wkW f q a b (f + 1)))) h) 9 [some (.int (nI f)), some (.int q), some (.long a), none, some (.long b), none, some (.long (wkW f q a b k)), none, some (.long (wkC f k)), none, some (.int (nI k))] [] h 0 := by
    intro n
    induction n with
    | zero =>
      intro k hk
      have hk : k = f + 1 := by omega
      subst hk
      refine w_iload dX6_waysToKeep_9 rfl ?_
      refine w_iload_n dX6_waysToKeep_11 rfl ?_
      refine w_icmp_gt_t (tgt := 67) dX6_waysToKeep_12 (by decide) (nI_lt (by omega) (by omega)) ?_
      refine w_lload dX6_waysToKeep_67 rfl ?_
      exact w_lret dX6_waysToKeep_69 rfl rfl rfl rfl (Nat.le_refl 0)
    | succ n ih =>
      intro k hk
      have e1 : wkW f q a b (k + 1) = if q ≤ nI k then wkW f q a b k + wkC f k * lpow a k * lpow b (f - k) else wkW f q a b k := rfl
      have e2 : wkC f (k + 1) = wkC f k * (nI f - nI k).toInt64 / (nI k + 1).toInt64 := rfl
      refine w_iload dX6_waysToKeep_9 rfl ?_
      refine w_iload_n dX6_waysToKeep_11 rfl ?_
      refine w_icmp_gt_f dX6_waysToKeep_12 ⟨67, by decide⟩ (nI_nlt (by omega) (by omega)) ?_
      refine w_iload dX6_waysToKeep_15 rfl ?_
      refine w_iload_n dX6_waysToKeep_17 rfl ?_
      refine w_icmp_lt (tgt := 45) dX6_waysToKeep_18 (by decide) (fun c_18 => ?_) (fun c_18 => ?_)
      · skip
        refine w_lload dX6_waysToKeep_45 rfl ?_
        refine w_iload_n dX6_waysToKeep_47 rfl ?_
        refine w_iload dX6_waysToKeep_48 rfl ?_
        refine w_isub dX6_waysToKeep_50 ?_
        refine w_i2l dX6_waysToKeep_51 ?_
        refine w_lmul dX6_waysToKeep_52 ?_
        refine w_iload dX6_waysToKeep_53 rfl ?_
        refine w_iconst (v := 1) dX6_waysToKeep_55 (by decide) ?_
        refine w_iadd dX6_waysToKeep_56 ?_
        refine w_i2l dX6_waysToKeep_57 ?_
        refine w_ldiv dX6_waysToKeep_58 (i2l_ne (by omega)) ?_
        refine w_lstore_8 dX6_waysToKeep_59 (Nat.le_of_ble_eq_true rfl) rfl ?_
        refine w_iinc_10 (v := 1) dX6_waysToKeep_61 (by decide) (Nat.le_of_ble_eq_true rfl) rfl ?_
        refine w_goto (tgt := 9) dX6_waysToKeep_64 (by decide) ?_
        first | exact w_leq (by rw [e1, e2, if_neg (Int32.not_le.mpr c_18), nI_1]) (ih (k + 1) (by omega)) | exact w_leq (by rw [e1, e2, if_pos (Int32.not_lt.mp c_18), nI_1]) (ih (k + 1) (by omega))
      · skip
        refine w_lload dX6_waysToKeep_21 rfl ?_
        refine w_lload dX6_waysToKeep_23 rfl ?_
        refine w_lload_n dX6_waysToKeep_25 rfl ?_
        refine w_iload dX6_waysToKeep_26 rfl ?_
        refine w_callSr dX6_waysToKeep_28 k_X6_207 (pm_X6_power (by omega)) rfl rfl (Nat.le_of_ble_eq_true rfl) (Nat.le_of_ble_eq_true rfl) (Nat.le_of_ble_eq_true rfl) (rc00 rfl (Nat.le_refl 0)) ?_
        refine w_lmul dX6_waysToKeep_31 ?_
        refine w_lload dX6_waysToKeep_32 rfl ?_
        refine w_iload_n dX6_waysToKeep_34 rfl ?_
        refine w_iload dX6_waysToKeep_35 rfl ?_
        refine w_isub dX6_waysToKeep_37 ?_
        rw [pk_sub (show k ≤ f by omega)]
        refine w_callSr dX6_waysToKeep_38 k_X6_207 (pm_X6_power (by omega)) rfl rfl (Nat.le_of_ble_eq_true rfl) (Nat.le_of_ble_eq_true rfl) (Nat.le_of_ble_eq_true rfl) (rc00 rfl (Nat.le_refl 0)) ?_
        refine w_lmul dX6_waysToKeep_41 ?_
        refine w_ladd dX6_waysToKeep_42 ?_
        refine w_lstore_6 dX6_waysToKeep_43 (Nat.le_of_ble_eq_true rfl) rfl ?_
        refine w_lload dX6_waysToKeep_45 rfl ?_
        refine w_iload_n dX6_waysToKeep_47 rfl ?_
        refine w_iload dX6_waysToKeep_48 rfl ?_
        refine w_isub dX6_waysToKeep_50 ?_
        refine w_i2l dX6_waysToKeep_51 ?_
        refine w_lmul dX6_waysToKeep_52 ?_
        refine w_iload dX6_waysToKeep_53 rfl ?_
        refine w_iconst (v := 1) dX6_waysToKeep_55 (by decide) ?_
        refine w_iadd dX6_waysToKeep_56 ?_
        refine w_i2l dX6_waysToKeep_57 ?_
        refine w_ldiv dX6_waysToKeep_58 (i2l_ne (by omega)) ?_
        refine w_lstore_8 dX6_waysToKeep_59 (Nat.le_of_ble_eq_true rfl) rfl ?_
        refine w_iinc_10 (v := 1) dX6_waysToKeep_61 (by decide) (Nat.le_of_ble_eq_true rfl) rfl ?_
        refine w_goto (tgt := 9) dX6_waysToKeep_64 (by decide) ?_
        first | exact w_leq (by rw [e1, e2, if_neg (Int32.not_le.mpr c_18), nI_1]) (ih (k + 1) (by omega)) | exact w_leq (by rw [e1, e2, if_pos (Int32.not_lt.mp c_18), nI_1]) (ih (k + 1) (by omega))
  refine w_lconst (v := 0) dX6_waysToKeep_0 (by decide) ?_
  refine w_lstore_6 dX6_waysToKeep_1 (Nat.le_of_ble_eq_true rfl) rfl ?_
  refine w_lconst (v := 1) dX6_waysToKeep_3 (by decide) ?_
  refine w_lstore_8 dX6_waysToKeep_4 (Nat.le_of_ble_eq_true rfl) rfl ?_
  refine w_iconst (v := 0) dX6_waysToKeep_6 (by decide) ?_
  refine w_istore_10 dX6_waysToKeep_7 (Nat.le_of_ble_eq_true rfl) rfl ?_
  exact loop (f + 1) 0 (by omega)

set_option maxRecDepth 100000 in
set_option maxHeartbeats 4000000 in
theorem pm_X6_commonDivisor {l : Launch} {D : va_G} {h : PH} {a b : Int64} : PM l D YX6_commonDivisor 1 [.long a, .long b] h 0 0 (some (.long (gcdGo 200 a b))) h := by
  refine pm_of2 (n0 := h.length) kb_YX6_commonDivisor rfl [some (.long a), none, some (.long b), none, none, none, none, none, none, none, none] (fun _ => rfl) (fun _ => (Nat.le_of_ble_eq_true rfl)) ?_
  have loop : ∀ (n i : Nat), i + n = 200 → ∀ (x y : Int64) (o1 o2 : Option Value), gcdGo n x y = gcdGo 200 a b → Wp l D YX6_commonDivisor (pRm 1 0 0) h.length (fun _ _ _ => True) (mE D h.length 0 0 (some (.long (gcdGo 200 a b))) h) 9 [some (.long a), none, some (.long b), none, some (.long x), none, some (.long y), none, some (.int (nI i)), o1, o2] [] h 0 := by
    intro n
    induction n with
    | zero =>
      intro i hi x y o1 o2 hr
      have hi : i = 200 := by omega
      subst hi
      refine w_iload dX6_commonDivisor_9 rfl ?_
      refine w_sipush (v := 200) dX6_commonDivisor_11 (by decide) ?_
      refine w_icmp_ge_t (tgt := 45) dX6_commonDivisor_14 (by decide) (Int32.le_refl _) ?_
      refine w_lload dX6_commonDivisor_45 rfl ?_
      exact w_lret dX6_commonDivisor_47 rfl (by rw [← hr]; rfl) rfl rfl (Nat.le_refl 0)
    | succ n ih =>
      intro i hi x y o1 o2 hr
      rw [gcdGo] at hr
      refine w_iload dX6_commonDivisor_9 rfl ?_
      refine w_sipush (v := 200) dX6_commonDivisor_11 (by decide) ?_
      refine w_icmp_ge_f dX6_commonDivisor_14 ⟨45, by decide⟩ (lp_g hi (by decide) rfl) ?_
      refine w_lload dX6_commonDivisor_17 rfl ?_
      refine w_lconst (v := 0) dX6_commonDivisor_19 (by decide) ?_
      refine w_lcmp dX6_commonDivisor_20 ?_
      refine w_if_eq (tgt := 45) dX6_commonDivisor_21 (by decide) (fun c_21 => ?_) (fun c_21 => ?_)
      · skip
        refine w_lload dX6_commonDivisor_45 rfl ?_
        exact w_lret dX6_commonDivisor_47 rfl (by rw [if_pos (lg_0.mp c_21)] at hr; exact hr) rfl rfl (Nat.le_refl 0)
      · skip
        refine w_lload dX6_commonDivisor_24 rfl ?_
        refine w_lload dX6_commonDivisor_26 rfl ?_
        refine w_lrem dX6_commonDivisor_28 (fun z => c_21 (lg_0.mpr z)) ?_
        refine w_lstore_9 dX6_commonDivisor_29 (Nat.le_of_ble_eq_true rfl) rfl ?_
        refine w_lload dX6_commonDivisor_31 rfl ?_
        refine w_lstore_4 dX6_commonDivisor_33 (Nat.le_of_ble_eq_true rfl) rfl ?_
        refine w_lload dX6_commonDivisor_35 rfl ?_
        refine w_lstore_6 dX6_commonDivisor_37 (Nat.le_of_ble_eq_true rfl) rfl ?_
        refine w_iinc_8 (v := 1) dX6_commonDivisor_39 (by decide) (Nat.le_of_ble_eq_true rfl) rfl ?_
        refine w_goto (tgt := 9) dX6_commonDivisor_42 (by decide) ?_
        rw [if_neg (fun z => c_21 (lg_0.mpr z))] at hr
        exact w_loc_8 (nI_1 i) (ih (i + 1) (by omega) _ _ _ _ hr)
  refine w_lload_n dX6_commonDivisor_0 rfl ?_
  refine w_lstore_4 dX6_commonDivisor_1 (Nat.le_of_ble_eq_true rfl) rfl ?_
  refine w_lload_n dX6_commonDivisor_3 rfl ?_
  refine w_lstore_6 dX6_commonDivisor_4 (Nat.le_of_ble_eq_true rfl) rfl ?_
  refine w_iconst (v := 0) dX6_commonDivisor_6 (by decide) ?_
  refine w_istore_8 dX6_commonDivisor_7 (Nat.le_of_ble_eq_true rfl) rfl ?_
  exact loop 200 0 rfl _ _ _ _ rfl

theorem w_lstore_15 {l : Launch} {D : va_G} {Y : PMth} {R : Room} {n0 : Nat} {X : State → Array Value → Nat → Prop} {E : List Frame → Array Value → State → Nat → State → Prop} {pc nx : Nat} {L : List (Option Value)} {st : List Value} {h : PH} {n : Nat} {a0 a1 a2 a3 a4 a5 a6 a7 a8 a9 a10 a11 a12 a13 a14 a15 a16 : Option Value} {x : Int64} (hd : dc Y.2.1 pc (.lstore 15) 2 nx) (hn : 15 + 1 < Y.2.2.1) (hc : c1 a14 = true) (kk : Wp l D Y R n0 X E nx (a0 :: a1 :: a2 :: a3 :: a4 :: a5 :: a6 :: a7 :: a8 :: a9 :: a10 :: a11 :: a12 :: a13 :: a14 :: some (.long x) :: none :: L) st h n) : Wp l D Y R n0 X E pc (a0 :: a1 :: a2 :: a3 :: a4 :: a5 :: a6 :: a7 :: a8 :: a9 :: a10 :: a11 :: a12 :: a13 :: a14 :: a15 :: a16 :: L) (.long x :: st) h n := w_lstore (i := 15) hd hn (by simp) hc kk
set_option maxRecDepth 100000 in
set_option maxHeartbeats 4000000 in
theorem pm_X6_chance {l : Launch} {D : va_G} {N T : WS} {im : Nat → Option Nat} {ps mo op : Nat → Int32} {pn ta tb tw tp tn ka kf ks kc tot : Int32} {t : PH} {s x n u p : Int32} : PM l D YX6_chance 4 [.ref 0, .int s, .int x, .int n, .int u, .int p] (XH N im ps pn T ta tb tw tp tn ka kf ks kc mo op tot t) 0 0 (some (.long (cChc N s x n u p))) (XH N im ps pn T ta tb tw tp tn ka kf ks kc mo op tot t) := by
  refine pm_of2 (n0 := (t.length + 28)) kb_YX6_chance rfl [some (.ref 0), some (.int s), some (.int x), some (.int n), some (.int u), some (.int p), none, none, none, none, none, none, none, none, none, none, none] (fun _ => rfl) (fun _ => (Nat.le_of_ble_eq_true rfl)) ?_
  refine w_aload_n dX6_chance_0 rfl ?_
  refine w_get dX6_chance_1 f_X6_10 rfl rfl ?_
  refine w_iload_n dX6_chance_4 rfl ?_
  refine w_callVr dX6_chance_5 k_X6_117 (xN_isLiving) rfl rfl rfl rfl (Nat.le_of_ble_eq_true rfl) (Nat.le_of_ble_eq_true rfl) (Nat.le_of_ble_eq_true rfl) (rc00 rfl (Nat.le_refl 0)) ?_
  refine w_zif_eq (tgt := 18) dX6_chance_8 (by decide) (fun c_8 => ?_) (fun c_8 => ?_)
  · skip
    refine w_ldc2 dX6_chance_18 q_X6_203 ?_
    exact w_lret dX6_chance_21 rfl (by simp only [cChc, if_pos, if_neg, not_false_eq_true, if_true, if_false, Bool.false_eq_true, *]; try rfl) rfl rfl (Nat.le_refl 0)
  · skip
    refine w_iload_n dX6_chance_11 rfl ?_
    refine w_callSr dX6_chance_12 k_X6_70 (pm_X6_isBox) rfl rfl (Nat.le_of_ble_eq_true rfl) (Nat.le_of_ble_eq_true rfl) (Nat.le_of_ble_eq_true rfl) (rc00 rfl (Nat.le_refl 0)) ?_
    refine w_zif_ne (tgt := 22) dX6_chance_15 (by decide) (fun c_15 => ?_) (fun c_15 => ?_)
    · skip
      refine w_iload_n dX6_chance_22 rfl ?_
      refine w_iconst (v := 0) dX6_chance_23 (by decide) ?_
      refine w_iconst (v := 2) dX6_chance_24 (by decide) ?_
      refine w_callSr dX6_chance_25 k_X6_52 (pm_X6_isWithin) rfl rfl (Nat.le_of_ble_eq_true rfl) (Nat.le_of_ble_eq_true rfl) (Nat.le_of_ble_eq_true rfl) (rc00 rfl (Nat.le_refl 0)) ?_
      refine w_zif_eq (tgt := 52) dX6_chance_28 (by decide) (fun c_28 => ?_) (fun c_28 => ?_)
      · skip
        refine w_ldc2 dX6_chance_52 q_X6_205 ?_
        exact w_lret dX6_chance_55 rfl (by simp only [cChc, if_pos, if_neg, not_false_eq_true, if_true, if_false, Bool.false_eq_true, *]; try rfl) rfl rfl (Nat.le_refl 0)
      · skip
        refine w_iload dX6_chance_31 rfl ?_
        refine w_iconst (v := 0) dX6_chance_33 (by decide) ?_
        refine w_bipush (v := 10) dX6_chance_34 (by decide) ?_
        refine w_callSr dX6_chance_36 k_X6_52 (pm_X6_isWithin) rfl rfl (Nat.le_of_ble_eq_true rfl) (Nat.le_of_ble_eq_true rfl) (Nat.le_of_ble_eq_true rfl) (rc00 rfl (Nat.le_refl 0)) ?_
        refine w_zif_eq (tgt := 52) dX6_chance_39 (by decide) (fun c_39 => ?_) (fun c_39 => ?_)
        · skip
          refine w_ldc2 dX6_chance_52 q_X6_205 ?_
          exact w_lret dX6_chance_55 rfl (by simp only [cChc, if_pos, if_neg, not_false_eq_true, if_true, if_false, Bool.false_eq_true, *]; try rfl) rfl rfl (Nat.le_refl 0)
        · skip
          refine w_iload dX6_chance_42 rfl ?_
          refine w_iconst (v := 0) dX6_chance_44 (by decide) ?_
          refine w_iconst (v := 1) dX6_chance_45 (by decide) ?_
          refine w_callSr dX6_chance_46 k_X6_52 (pm_X6_isWithin) rfl rfl (Nat.le_of_ble_eq_true rfl) (Nat.le_of_ble_eq_true rfl) (Nat.le_of_ble_eq_true rfl) (rc00 rfl (Nat.le_refl 0)) ?_
          refine w_zif_ne (tgt := 56) dX6_chance_49 (by decide) (fun c_49 => ?_) (fun c_49 => ?_)
          · skip
            obtain ⟨n1, hn1, rfl⟩ := in_nI 2 rfl (by decide) (by decide) c_28
            obtain ⟨u1, hu1, rfl⟩ := in_nI 10 rfl (by decide) (by decide) c_39
            refine w_aload_n dX6_chance_56 rfl ?_
            refine w_get dX6_chance_57 f_X6_10 rfl rfl ?_
            refine w_iload_n dX6_chance_60 rfl ?_
            refine w_iload_n dX6_chance_61 rfl ?_
            refine w_callVr dX6_chance_62 k_X6_158 (xN_felt (vin_box (by assumption)) (vin_liv (by assumption))) rfl rfl rfl rfl (Nat.le_of_ble_eq_true rfl) (Nat.le_of_ble_eq_true rfl) (Nat.le_of_ble_eq_true rfl) (rc00 rfl (Nat.le_refl 0)) ?_
            refine w_top (y := nI (sFelt N x s).toNatClampNeg) (bc_c _).symm ?_
            refine w_istore_6 dX6_chance_65 (Nat.le_of_ble_eq_true rfl) rfl ?_
            refine w_iload dX6_chance_67 rfl ?_
            refine w_i2l dX6_chance_69 ?_
            refine w_iload_n dX6_chance_70 rfl ?_
            refine w_callSr dX6_chance_71 k_X6_207 (pm_X6_power (by omega)) rfl rfl (Nat.le_of_ble_eq_true rfl) (Nat.le_of_ble_eq_true rfl) (Nat.le_of_ble_eq_true rfl) (rc00 rfl (Nat.le_refl 0)) ?_
            refine w_lstore_7 dX6_chance_74 (Nat.le_of_ble_eq_true rfl) rfl ?_
            refine w_ldc2 dX6_chance_76 q_X6_211 ?_
            refine w_iload_n dX6_chance_79 rfl ?_
            refine w_callSr dX6_chance_80 k_X6_207 (pm_X6_power (by omega)) rfl rfl (Nat.le_of_ble_eq_true rfl) (Nat.le_of_ble_eq_true rfl) (Nat.le_of_ble_eq_true rfl) (rc00 rfl (Nat.le_refl 0)) ?_
            refine w_lstore_9 dX6_chance_83 (Nat.le_of_ble_eq_true rfl) rfl ?_
            refine w_iload dX6_chance_85 rfl ?_
            refine w_aload_n dX6_chance_87 rfl ?_
            refine w_get dX6_chance_88 f_X6_10 rfl rfl ?_
            refine w_get dX6_chance_91 f_X6_80 rfl rfl ?_
            refine w_iload_n dX6_chance_94 rfl ?_
            refine w_iald dX6_chance_95 rfl (vin_box c_15) ?_
            refine w_lload dX6_chance_96 rfl ?_
            refine w_lload dX6_chance_98 rfl ?_
            refine w_lload dX6_chance_100 rfl ?_
            refine w_lsub dX6_chance_102 ?_
            refine w_callSr dX6_chance_103 k_X6_213 (pm_X6_waysToKeep (bc_c64 _)) rfl rfl (Nat.le_of_ble_eq_true rfl) (Nat.le_of_ble_eq_true rfl) (Nat.le_of_ble_eq_true rfl) (rc00 rfl (Nat.le_refl 0)) ?_
            refine w_lstore_11 dX6_chance_106 (Nat.le_of_ble_eq_true rfl) rfl ?_
            refine w_lload dX6_chance_108 rfl ?_
            refine w_iload dX6_chance_110 rfl ?_
            refine w_callSr dX6_chance_112 k_X6_207 (pm_X6_power (Nat.lt_trans (bc_c64 _) (by decide))) rfl rfl (Nat.le_of_ble_eq_true rfl) (Nat.le_of_ble_eq_true rfl) (Nat.le_of_ble_eq_true rfl) (rc00 rfl (Nat.le_refl 0)) ?_
            refine w_lstore_13 dX6_chance_115 (Nat.le_of_ble_eq_true rfl) rfl ?_
            refine w_lload dX6_chance_117 rfl ?_
            refine w_lload dX6_chance_119 rfl ?_
            refine w_callSr dX6_chance_121 k_X6_217 (pm_X6_commonDivisor) rfl rfl (Nat.le_of_ble_eq_true rfl) (Nat.le_of_ble_eq_true rfl) (Nat.le_of_ble_eq_true rfl) (rc00 rfl (Nat.le_refl 0)) ?_
            refine w_lstore_15 dX6_chance_124 (Nat.le_of_ble_eq_true rfl) rfl ?_
            refine w_lload dX6_chance_126 rfl ?_
            refine w_lconst (v := 1) dX6_chance_128 (by decide) ?_
            refine w_lcmp dX6_chance_129 ?_
            refine w_if_ge (tgt := 137) dX6_chance_130 (by decide) (fun c_130 => ?_) (fun c_130 => ?_)
            · skip
              refine w_iload dX6_chance_137 rfl ?_
              refine w_if_ne (tgt := 147) dX6_chance_139 (by decide) (fun c_139 => ?_) (fun c_139 => ?_)
              · skip
                refine w_lload dX6_chance_147 rfl ?_
                refine w_lload dX6_chance_149 rfl ?_
                refine w_ldiv dX6_chance_151 (fun z => by have q := (lg_cmp_ge _ _).mp c_130; rw [z] at q; exact absurd q (by decide)) ?_
                exact w_lret dX6_chance_152 rfl (by have hG : 1 ≤ chG N x s n1 u1 := (lg_cmp_ge _ _).mp c_130; rw [cChc, if_pos c_8, if_pos c_15, if_pos c_28, if_pos c_39, if_pos c_49, nI_clamp (by omega), nI_clamp (by omega), if_neg (Int64.not_lt.mpr hG)]; first | (rw [if_pos c_139]; rfl) | (rw [if_neg c_139]; rfl)) rfl rfl (Nat.le_refl 0)
              · skip
                refine w_lload dX6_chance_142 rfl ?_
                refine w_goto (tgt := 149) dX6_chance_144 (by decide) ?_
                refine w_lload dX6_chance_149 rfl ?_
                refine w_ldiv dX6_chance_151 (fun z => by have q := (lg_cmp_ge _ _).mp c_130; rw [z] at q; exact absurd q (by decide)) ?_
                exact w_lret dX6_chance_152 rfl (by have hG : 1 ≤ chG N x s n1 u1 := (lg_cmp_ge _ _).mp c_130; rw [cChc, if_pos c_8, if_pos c_15, if_pos c_28, if_pos c_39, if_pos c_49, nI_clamp (by omega), nI_clamp (by omega), if_neg (Int64.not_lt.mpr hG)]; first | (rw [if_pos c_139]; rfl) | (rw [if_neg c_139]; rfl)) rfl rfl (Nat.le_refl 0)
            · skip
              refine w_ldc2 dX6_chance_133 q_X6_205 ?_
              exact w_lret dX6_chance_136 rfl (by have hG : ¬ 1 ≤ chG N x s n1 u1 := fun q => c_130 ((lg_cmp_ge _ _).mpr q); rw [cChc, if_pos c_8, if_pos c_15, if_pos c_28, if_pos c_39, if_pos c_49, nI_clamp (by omega), nI_clamp (by omega), if_pos (Int64.not_le.mp hG)]) rfl rfl (Nat.le_refl 0)
          · skip
            refine w_ldc2 dX6_chance_52 q_X6_205 ?_
            exact w_lret dX6_chance_55 rfl (by simp only [cChc, if_pos, if_neg, not_false_eq_true, if_true, if_false, Bool.false_eq_true, *]; try rfl) rfl rfl (Nat.le_refl 0)
    · skip
      refine w_ldc2 dX6_chance_18 q_X6_203 ?_
      exact w_lret dX6_chance_21 rfl (by simp only [cChc, if_pos, if_neg, not_false_eq_true, if_true, if_false, Bool.false_eq_true, *]; try rfl) rfl rfl (Nat.le_refl 0)

def cBkR (N T : WS) (ka kf ks kc s m w : Int32) : Int32 := if sIn s 0 9999 then (if sIn m 1 99 then (if sIn w 0 2 then (if w = 0 then bc (wlv (dwGo m.toNatClampNeg s (sCpy T N) ka kf ks kc).1) else if w = 1 then sPurs (dwGo m.toNatClampNeg s (sCpy T N) ka kf ks kc).1 else sCoin (dwGo m.toNatClampNeg s (sCpy T N) ka kf ks kc).1) else -2) else -2) else -2
def cBkQ (N T : WS) (ka kf ks kc s m w : Int32) : WS × Int32 × Int32 × Int32 × Int32 := if sIn s 0 9999 then (if sIn m 1 99 then (if sIn w 0 2 then dwGo m.toNatClampNeg s (sCpy T N) ka kf ks kc else (T, ka, kf, ks, kc)) else (T, ka, kf, ks, kc)) else (T, ka, kf, ks, kc)
theorem in02 {w : Int32} (h : sIn w 0 2 = true) : w = 0 ∨ w = 1 ∨ w = 2 := by
  obtain ⟨k, hk, rfl⟩ := in_nI 2 rfl (by decide) (by decide) h
  match k, hk with
  | 0, _ => exact Or.inl rfl
  | 1, _ => exact Or.inr (Or.inl rfl)
  | 2, _ => exact Or.inr (Or.inr rfl)
set_option maxRecDepth 100000 in
set_option maxHeartbeats 4000000 in
theorem pm_X6_book {l : Launch} {D : va_G} {N T : WS} {im : Nat → Option Nat} {ps mo op : Nat → Int32} {pn ta tb tw tp tn ka kf ks kc tot : Int32} {t : PH} {s m w : Int32} : PM l D YX6_book 7 [.ref 0, .int s, .int m, .int w] (XH N im ps pn T ta tb tw tp tn ka kf ks kc mo op tot t) 0 0 (some (.int (cBkR N T ka kf ks kc s m w))) (XH N im ps pn (cBkQ N T ka kf ks kc s m w).1 ta tb tw tp tn (cBkQ N T ka kf ks kc s m w).2.1 (cBkQ N T ka kf ks kc s m w).2.2.1 (cBkQ N T ka kf ks kc s m w).2.2.2.1 (cBkQ N T ka kf ks kc s m w).2.2.2.2 mo op tot t) := by
  refine pm_of2 (n0 := (t.length + 28)) kb_YX6_book rfl [some (.ref 0), some (.int s), some (.int m), some (.int w)] (fun _ => rfl) (fun _ => (Nat.le_of_ble_eq_true rfl)) ?_
  refine w_iload_n dX6_book_0 rfl ?_
  refine w_iconst (v := 0) dX6_book_1 (by decide) ?_
  refine w_sipush (v := 9999) dX6_book_2 (by decide) ?_
  refine w_callSr dX6_book_5 k_X6_52 (pm_X6_isWithin) rfl rfl (Nat.le_of_ble_eq_true rfl) (Nat.le_of_ble_eq_true rfl) (Nat.le_of_ble_eq_true rfl) (rc00 rfl (Nat.le_refl 0)) ?_
  refine w_zif_eq (tgt := 30) dX6_book_8 (by decide) (fun c_8 => ?_) (fun c_8 => ?_)
  · skip
    refine w_bipush (v := (-2)) dX6_book_30 (by decide) ?_
    exact w_iret dX6_book_32 rfl (by simp only [cBkR, if_pos, if_neg, not_false_eq_true, if_true, if_false, Bool.false_eq_true, c_8]; try rfl) (by simp only [cBkQ, if_pos, if_neg, not_false_eq_true, if_true, if_false, Bool.false_eq_true, c_8]; try rfl) rfl (Nat.le_refl 0)
  · skip
    refine w_iload_n dX6_book_11 rfl ?_
    refine w_iconst (v := 1) dX6_book_12 (by decide) ?_
    refine w_bipush (v := 99) dX6_book_13 (by decide) ?_
    refine w_callSr dX6_book_15 k_X6_52 (pm_X6_isWithin) rfl rfl (Nat.le_of_ble_eq_true rfl) (Nat.le_of_ble_eq_true rfl) (Nat.le_of_ble_eq_true rfl) (rc00 rfl (Nat.le_refl 0)) ?_
    refine w_zif_eq (tgt := 30) dX6_book_18 (by decide) (fun c_18 => ?_) (fun c_18 => ?_)
    · skip
      refine w_bipush (v := (-2)) dX6_book_30 (by decide) ?_
      exact w_iret dX6_book_32 rfl (by simp only [cBkR, if_pos, if_neg, not_false_eq_true, if_true, if_false, Bool.false_eq_true, c_8, c_18]; try rfl) (by simp only [cBkQ, if_pos, if_neg, not_false_eq_true, if_true, if_false, Bool.false_eq_true, c_8, c_18]; try rfl) rfl (Nat.le_refl 0)
    · skip
      refine w_iload_n dX6_book_21 rfl ?_
      refine w_iconst (v := 0) dX6_book_22 (by decide) ?_
      refine w_iconst (v := 2) dX6_book_23 (by decide) ?_
      refine w_callSr dX6_book_24 k_X6_52 (pm_X6_isWithin) rfl rfl (Nat.le_of_ble_eq_true rfl) (Nat.le_of_ble_eq_true rfl) (Nat.le_of_ble_eq_true rfl) (rc00 rfl (Nat.le_refl 0)) ?_
      refine w_zif_ne (tgt := 33) dX6_book_27 (by decide) (fun c_27 => ?_) (fun c_27 => ?_)
      · skip
        obtain ⟨m1, hm1, rfl⟩ := in_nI 99 rfl (by decide) (by decide) c_18
        rcases in02 c_27 with rfl | rfl | rfl
        · skip
          refine w_aload_n dX6_book_33 rfl ?_
          refine w_get dX6_book_34 f_X6_30 rfl rfl ?_
          refine w_aload_n dX6_book_37 rfl ?_
          refine w_get dX6_book_38 f_X6_10 rfl rfl ?_
          refine w_iload_n dX6_book_41 rfl ?_
          refine w_iload_n dX6_book_42 rfl ?_
          refine w_callVv dX6_book_43 k_X6_221 (pm_X4_followDraws hm1) rfl rfl rfl rfl (Nat.le_of_ble_eq_true rfl) (Nat.le_of_ble_eq_true rfl) (Nat.le_of_ble_eq_true rfl) (rc00 rfl (Nat.le_refl 0)) ?_
          refine w_iload_n dX6_book_46 rfl ?_
          refine w_lookup (tgt := 72) (off := 25) dX6_book_47 (by decide) (by decide) (by decide) ?_
          refine w_aload_n dX6_book_72 rfl ?_
          refine w_get dX6_book_73 f_X6_30 rfl rfl ?_
          refine w_get dX6_book_76 f_X6_107 rfl rfl ?_
          refine w_get dX6_book_79 f_X6_60 rfl rfl ?_
          refine w_callSr dX6_book_82 k_X6_64 (pm_bitCount) rfl rfl (Nat.le_of_ble_eq_true rfl) (Nat.le_of_ble_eq_true rfl) (Nat.le_of_ble_eq_true rfl) (rc00 rfl (Nat.le_refl 0)) ?_
          exact w_iret dX6_book_85 rfl (by rw [cBkR, if_pos c_8, if_pos c_18, if_pos c_27, nI_clamp (by omega)]; rfl) (by rw [cBkQ, if_pos c_8, if_pos c_18, if_pos c_27, nI_clamp (by omega)]) rfl (Nat.le_refl 0)
        · skip
          refine w_aload_n dX6_book_33 rfl ?_
          refine w_get dX6_book_34 f_X6_30 rfl rfl ?_
          refine w_aload_n dX6_book_37 rfl ?_
          refine w_get dX6_book_38 f_X6_10 rfl rfl ?_
          refine w_iload_n dX6_book_41 rfl ?_
          refine w_iload_n dX6_book_42 rfl ?_
          refine w_callVv dX6_book_43 k_X6_221 (pm_X4_followDraws hm1) rfl rfl rfl rfl (Nat.le_of_ble_eq_true rfl) (Nat.le_of_ble_eq_true rfl) (Nat.le_of_ble_eq_true rfl) (rc00 rfl (Nat.le_refl 0)) ?_
          refine w_iload_n dX6_book_46 rfl ?_
          refine w_lookup (tgt := 86) (off := 39) dX6_book_47 (by decide) (by decide) (by decide) ?_
          refine w_aload_n dX6_book_86 rfl ?_
          refine w_get dX6_book_87 f_X6_30 rfl rfl ?_
          refine w_get dX6_book_90 f_X6_107 rfl rfl ?_
          refine w_callVr dX6_book_93 k_X6_225 (xT_pursesTogether) rfl rfl rfl rfl (Nat.le_of_ble_eq_true rfl) (Nat.le_of_ble_eq_true rfl) (Nat.le_of_ble_eq_true rfl) (rc00 rfl (Nat.le_refl 0)) ?_
          exact w_iret dX6_book_96 rfl (by rw [cBkR, if_pos c_8, if_pos c_18, if_pos c_27, nI_clamp (by omega)]; rfl) (by rw [cBkQ, if_pos c_8, if_pos c_18, if_pos c_27, nI_clamp (by omega)]) rfl (Nat.le_refl 0)
        · skip
          refine w_aload_n dX6_book_33 rfl ?_
          refine w_get dX6_book_34 f_X6_30 rfl rfl ?_
          refine w_aload_n dX6_book_37 rfl ?_
          refine w_get dX6_book_38 f_X6_10 rfl rfl ?_
          refine w_iload_n dX6_book_41 rfl ?_
          refine w_iload_n dX6_book_42 rfl ?_
          refine w_callVv dX6_book_43 k_X6_221 (pm_X4_followDraws hm1) rfl rfl rfl rfl (Nat.le_of_ble_eq_true rfl) (Nat.le_of_ble_eq_true rfl) (Nat.le_of_ble_eq_true rfl) (rc00 rfl (Nat.le_refl 0)) ?_
          refine w_iload_n dX6_book_46 rfl ?_
          refine w_lookup (tgt := 97) (off := 50) dX6_book_47 (by decide) (by decide) (by decide) ?_
          refine w_aload_n dX6_book_97 rfl ?_
          refine w_get dX6_book_98 f_X6_30 rfl rfl ?_
          refine w_get dX6_book_101 f_X6_107 rfl rfl ?_
          refine w_callVr dX6_book_104 k_X6_228 (xT_coinsLeft) rfl rfl rfl rfl (Nat.le_of_ble_eq_true rfl) (Nat.le_of_ble_eq_true rfl) (Nat.le_of_ble_eq_true rfl) (rc00 rfl (Nat.le_refl 0)) ?_
          exact w_iret dX6_book_107 rfl (by rw [cBkR, if_pos c_8, if_pos c_18, if_pos c_27, nI_clamp (by omega)]; rfl) (by rw [cBkQ, if_pos c_8, if_pos c_18, if_pos c_27, nI_clamp (by omega)]) rfl (Nat.le_refl 0)
      · skip
        refine w_bipush (v := (-2)) dX6_book_30 (by decide) ?_
        exact w_iret dX6_book_32 rfl (by simp only [cBkR, if_pos, if_neg, not_false_eq_true, if_true, if_false, Bool.false_eq_true, c_8, c_18, c_27]; try rfl) (by simp only [cBkQ, if_pos, if_neg, not_false_eq_true, if_true, if_false, Bool.false_eq_true, c_8, c_18, c_27]; try rfl) rfl (Nat.le_refl 0)

theorem out4 {a : Int32} (h0 : ¬ a = 0) (h1 : ¬ a = 1) (h2 : ¬ a = 2) (h3 : ¬ a = 3) : a.toInt < 0 ∨ 3 < a.toInt := by
  have e0 : ¬ a.toInt = 0 := fun h => h0 (Int32.toInt_inj.mp h)
  have e1 : ¬ a.toInt = 1 := fun h => h1 (Int32.toInt_inj.mp h)
  have e2 : ¬ a.toInt = 2 := fun h => h2 (Int32.toInt_inj.mp h)
  have e3 : ¬ a.toInt = 3 := fun h => h3 (Int32.toInt_inj.mp h)
  omega
set_option maxRecDepth 100000 in
set_option maxHeartbeats 4000000 in
theorem pm_X6_toldOfBox {l : Launch} {D : va_G} {N T : WS} {im : Nat → Option Nat} {ps mo op : Nat → Int32} {pn ta tb tw tp tn ka kf ks kc tot : Int32} {t : PH} {x w : Int32} : PM l D YX6_toldOfBox 2 [.ref 0, .int x, .int w] (XH N im ps pn T ta tb tw tp tn ka kf ks kc mo op tot t) 0 0 (some (.int (cTb N x w))) (XH N im ps pn T ta tb tw tp tn ka kf ks kc mo op tot t) := by
  refine pm_of2 (n0 := (t.length + 28)) kb_YX6_toldOfBox rfl [some (.ref 0), some (.int x), some (.int w)] (fun _ => rfl) (fun _ => (Nat.le_of_ble_eq_true rfl)) ?_
  refine w_iload_n dX6_toldOfBox_0 rfl ?_
  refine w_callSr dX6_toldOfBox_1 k_X6_70 (pm_X6_isBox) rfl rfl (Nat.le_of_ble_eq_true rfl) (Nat.le_of_ble_eq_true rfl) (Nat.le_of_ble_eq_true rfl) (rc00 rfl (Nat.le_refl 0)) ?_
  refine w_zif_ne (tgt := 10) dX6_toldOfBox_4 (by decide) (fun c_4 => ?_) (fun c_4 => ?_)
  · skip
    by_cases a0 : w = 0
    · subst a0
      refine w_iload_n dX6_toldOfBox_10 rfl ?_
      refine w_tableIn (tgt := 36) dX6_toldOfBox_11 (by decide) (by decide) rfl (by decide) ?_
      refine w_aload_n dX6_toldOfBox_36 rfl ?_
      refine w_get dX6_toldOfBox_37 f_X6_10 rfl rfl ?_
      refine w_get dX6_toldOfBox_40 f_X6_77 rfl rfl ?_
      refine w_iload_n dX6_toldOfBox_43 rfl ?_
      refine w_iald dX6_toldOfBox_44 rfl (vin_box c_4) ?_
      exact w_iret dX6_toldOfBox_45 rfl (by rw [cTb, if_pos c_4]; rfl) rfl rfl (Nat.le_refl 0)
    by_cases a1 : w = 1
    · subst a1
      refine w_iload_n dX6_toldOfBox_10 rfl ?_
      refine w_tableIn (tgt := 46) dX6_toldOfBox_11 (by decide) (by decide) rfl (by decide) ?_
      refine w_aload_n dX6_toldOfBox_46 rfl ?_
      refine w_get dX6_toldOfBox_47 f_X6_10 rfl rfl ?_
      refine w_get dX6_toldOfBox_50 f_X6_80 rfl rfl ?_
      refine w_iload_n dX6_toldOfBox_53 rfl ?_
      refine w_iald dX6_toldOfBox_54 rfl (vin_box c_4) ?_
      exact w_iret dX6_toldOfBox_55 rfl (by rw [cTb, if_pos c_4]; rfl) rfl rfl (Nat.le_refl 0)
    by_cases a2 : w = 2
    · subst a2
      refine w_iload_n dX6_toldOfBox_10 rfl ?_
      refine w_tableIn (tgt := 56) dX6_toldOfBox_11 (by decide) (by decide) rfl (by decide) ?_
      refine w_aload_n dX6_toldOfBox_56 rfl ?_
      refine w_get dX6_toldOfBox_57 f_X6_10 rfl rfl ?_
      refine w_get dX6_toldOfBox_60 f_X6_73 rfl rfl ?_
      refine w_iload_n dX6_toldOfBox_63 rfl ?_
      refine w_iald dX6_toldOfBox_64 rfl (vin_box c_4) ?_
      exact w_iret dX6_toldOfBox_65 rfl (by rw [cTb, if_pos c_4]; rfl) rfl rfl (Nat.le_refl 0)
    refine w_iload_n dX6_toldOfBox_10 rfl ?_
    refine w_tableOut (tgt := 66) dX6_toldOfBox_11 (out3 a0 a1 a2) (by decide) ?_
    refine w_bipush (v := (-2)) dX6_toldOfBox_66 (by decide) ?_
    exact w_iret dX6_toldOfBox_68 rfl (by rw [cTb, if_pos c_4, if_neg a0, if_neg a1, if_neg a2]) rfl rfl (Nat.le_refl 0)
  · skip
    refine w_bipush (v := (-2)) dX6_toldOfBox_7 (by decide) ?_
    exact w_iret dX6_toldOfBox_9 rfl (by simp only [cTb, if_pos, if_neg, not_false_eq_true, if_true, if_false, Bool.false_eq_true, c_4]; try rfl) rfl rfl (Nat.le_refl 0)

set_option maxRecDepth 100000 in
set_option maxHeartbeats 4000000 in
theorem pm_X6_toldOfSoul {l : Launch} {D : va_G} {N T : WS} {im : Nat → Option Nat} {ps mo op : Nat → Int32} {pn ta tb tw tp tn ka kf ks kc tot : Int32} {t : PH} {x w : Int32} : PM l D YX6_toldOfSoul 2 [.ref 0, .int x, .int w] (XH N im ps pn T ta tb tw tp tn ka kf ks kc mo op tot t) 0 0 (some (.int (cTs N x w))) (XH N im ps pn T ta tb tw tp tn ka kf ks kc mo op tot t) := by
  refine pm_of2 (n0 := (t.length + 28)) kb_YX6_toldOfSoul rfl [some (.ref 0), some (.int x), some (.int w)] (fun _ => rfl) (fun _ => (Nat.le_of_ble_eq_true rfl)) ?_
  refine w_iload_n dX6_toldOfSoul_0 rfl ?_
  refine w_callSr dX6_toldOfSoul_1 k_X6_48 (pm_X6_isSoul) rfl rfl (Nat.le_of_ble_eq_true rfl) (Nat.le_of_ble_eq_true rfl) (Nat.le_of_ble_eq_true rfl) (rc00 rfl (Nat.le_refl 0)) ?_
  refine w_zif_ne (tgt := 10) dX6_toldOfSoul_4 (by decide) (fun c_4 => ?_) (fun c_4 => ?_)
  · skip
    by_cases a0 : w = 0
    · subst a0
      refine w_iload_n dX6_toldOfSoul_10 rfl ?_
      refine w_tableIn (tgt := 36) dX6_toldOfSoul_11 (by decide) (by decide) rfl (by decide) ?_
      refine w_aload_n dX6_toldOfSoul_36 rfl ?_
      refine w_get dX6_toldOfSoul_37 f_X6_10 rfl rfl ?_
      refine w_get dX6_toldOfSoul_40 f_X6_120 rfl rfl ?_
      refine w_iload_n dX6_toldOfSoul_43 rfl ?_
      refine w_iald dX6_toldOfSoul_44 rfl (vin_soul c_4) ?_
      exact w_iret dX6_toldOfSoul_45 rfl (by rw [cTs, if_pos c_4]; rfl) rfl rfl (Nat.le_refl 0)
    by_cases a1 : w = 1
    · subst a1
      refine w_iload_n dX6_toldOfSoul_10 rfl ?_
      refine w_tableIn (tgt := 46) dX6_toldOfSoul_11 (by decide) (by decide) rfl (by decide) ?_
      refine w_aload_n dX6_toldOfSoul_46 rfl ?_
      refine w_get dX6_toldOfSoul_47 f_X6_10 rfl rfl ?_
      refine w_get dX6_toldOfSoul_50 f_X6_123 rfl rfl ?_
      refine w_iload_n dX6_toldOfSoul_53 rfl ?_
      refine w_iald dX6_toldOfSoul_54 rfl (vin_soul c_4) ?_
      exact w_iret dX6_toldOfSoul_55 rfl (by rw [cTs, if_pos c_4]; rfl) rfl rfl (Nat.le_refl 0)
    by_cases a2 : w = 2
    · subst a2
      refine w_iload_n dX6_toldOfSoul_10 rfl ?_
      refine w_tableIn (tgt := 56) dX6_toldOfSoul_11 (by decide) (by decide) rfl (by decide) ?_
      refine w_aload_n dX6_toldOfSoul_56 rfl ?_
      refine w_get dX6_toldOfSoul_57 f_X6_10 rfl rfl ?_
      refine w_get dX6_toldOfSoul_60 f_X6_126 rfl rfl ?_
      refine w_iload_n dX6_toldOfSoul_63 rfl ?_
      refine w_iald dX6_toldOfSoul_64 rfl (vin_soul c_4) ?_
      exact w_iret dX6_toldOfSoul_65 rfl (by rw [cTs, if_pos c_4]; rfl) rfl rfl (Nat.le_refl 0)
    refine w_iload_n dX6_toldOfSoul_10 rfl ?_
    refine w_tableOut (tgt := 66) dX6_toldOfSoul_11 (out3 a0 a1 a2) (by decide) ?_
    refine w_bipush (v := (-2)) dX6_toldOfSoul_66 (by decide) ?_
    exact w_iret dX6_toldOfSoul_68 rfl (by rw [cTs, if_pos c_4, if_neg a0, if_neg a1, if_neg a2]) rfl rfl (Nat.le_refl 0)
  · skip
    refine w_bipush (v := (-2)) dX6_toldOfSoul_7 (by decide) ?_
    exact w_iret dX6_toldOfSoul_9 rfl (by simp only [cTs, if_pos, if_neg, not_false_eq_true, if_true, if_false, Bool.false_eq_true, c_4]; try rfl) rfl rfl (Nat.le_refl 0)

set_option maxRecDepth 100000 in
set_option maxHeartbeats 4000000 in
theorem pm_X6_told {l : Launch} {D : va_G} {N T : WS} {im : Nat → Option Nat} {ps mo op : Nat → Int32} {pn ta tb tw tp tn ka kf ks kc tot : Int32} {t : PH} {w : Int32} : PM l D YX6_told 3 [.ref 0, .int w] (XH N im ps pn T ta tb tw tp tn ka kf ks kc mo op tot t) 0 0 (some (.int (cTld N pn w))) (XH N im ps pn T ta tb tw tp tn ka kf ks kc mo op tot t) := by
  refine pm_of2 (n0 := (t.length + 28)) kb_YX6_told rfl [some (.ref 0), some (.int w)] (fun _ => rfl) (fun _ => (Nat.le_of_ble_eq_true rfl)) ?_
  refine w_iload_n dX6_told_0 rfl ?_
  refine w_bipush (v := 100) dX6_told_1 (by decide) ?_
  refine w_icmp_lt (tgt := 21) dX6_told_3 (by decide) (fun c_3 => ?_) (fun c_3 => ?_)
  · skip
    refine w_iload_n dX6_told_21 rfl ?_
    refine w_bipush (v := 10) dX6_told_22 (by decide) ?_
    refine w_icmp_lt (tgt := 42) dX6_told_24 (by decide) (fun c_24 => ?_) (fun c_24 => ?_)
    · skip
      by_cases a0 : w = 0
      · subst a0
        refine w_iload_n dX6_told_42 rfl ?_
        refine w_tableIn (tgt := 72) dX6_told_43 (by decide) (by decide) rfl (by decide) ?_
        refine w_aload_n dX6_told_72 rfl ?_
        refine w_get dX6_told_73 f_X6_23 rfl rfl ?_
        refine w_get dX6_told_76 f_X6_86 rfl rfl ?_
        exact w_iret dX6_told_79 rfl (by rw [cTld, if_pos c_3, if_pos c_24]; rfl) rfl rfl (Nat.le_refl 0)
      by_cases a1 : w = 1
      · subst a1
        refine w_iload_n dX6_told_42 rfl ?_
        refine w_tableIn (tgt := 80) dX6_told_43 (by decide) (by decide) rfl (by decide) ?_
        refine w_aload_n dX6_told_80 rfl ?_
        refine w_get dX6_told_81 f_X6_10 rfl rfl ?_
        refine w_get dX6_told_84 f_X6_60 rfl rfl ?_
        exact w_iret dX6_told_87 rfl (by rw [cTld, if_pos c_3, if_pos c_24]; rfl) rfl rfl (Nat.le_refl 0)
      by_cases a2 : w = 2
      · subst a2
        refine w_iload_n dX6_told_42 rfl ?_
        refine w_tableIn (tgt := 88) dX6_told_43 (by decide) (by decide) rfl (by decide) ?_
        refine w_aload_n dX6_told_88 rfl ?_
        refine w_get dX6_told_89 f_X6_10 rfl rfl ?_
        refine w_get dX6_told_92 f_X6_129 rfl rfl ?_
        exact w_iret dX6_told_95 rfl (by rw [cTld, if_pos c_3, if_pos c_24]; rfl) rfl rfl (Nat.le_refl 0)
      by_cases a3 : w = 3
      · subst a3
        refine w_iload_n dX6_told_42 rfl ?_
        refine w_tableIn (tgt := 96) dX6_told_43 (by decide) (by decide) rfl (by decide) ?_
        refine w_aload_n dX6_told_96 rfl ?_
        refine w_get dX6_told_97 f_X6_10 rfl rfl ?_
        refine w_get dX6_told_100 f_X6_183 rfl rfl ?_
        exact w_iret dX6_told_103 rfl (by rw [cTld, if_pos c_3, if_pos c_24]; rfl) rfl rfl (Nat.le_refl 0)
      refine w_iload_n dX6_told_42 rfl ?_
      refine w_tableOut (tgt := 104) dX6_told_43 (out4 a0 a1 a2 a3) (by decide) ?_
      refine w_bipush (v := (-2)) dX6_told_104 (by decide) ?_
      exact w_iret dX6_told_106 rfl (by rw [cTld, if_pos c_3, if_pos c_24, if_neg a0, if_neg a1, if_neg a2, if_neg a3]) rfl rfl (Nat.le_refl 0)
    · skip
      refine w_aload_n dX6_told_27 rfl ?_
      refine w_iload_n dX6_told_28 rfl ?_
      refine w_bipush (v := 10) dX6_told_29 (by decide) ?_
      refine w_idiv dX6_told_31 (by decide) ?_
      refine w_iconst (v := 1) dX6_told_32 (by decide) ?_
      refine w_isub dX6_told_33 ?_
      refine w_iload_n dX6_told_34 rfl ?_
      refine w_bipush (v := 10) dX6_told_35 (by decide) ?_
      refine w_irem dX6_told_37 (by decide) ?_
      refine w_callVr dX6_told_38 k_X6_234 (pm_X6_toldOfBox) rfl rfl rfl rfl (Nat.le_of_ble_eq_true rfl) (Nat.le_of_ble_eq_true rfl) (Nat.le_of_ble_eq_true rfl) (rc00 rfl (Nat.le_refl 0)) ?_
      exact w_iret dX6_told_41 rfl (by rw [cTld, if_pos c_3, if_neg c_24]; rfl) rfl rfl (Nat.le_refl 0)
  · skip
    refine w_aload_n dX6_told_6 rfl ?_
    refine w_iload_n dX6_told_7 rfl ?_
    refine w_bipush (v := 100) dX6_told_8 (by decide) ?_
    refine w_idiv dX6_told_10 (by decide) ?_
    refine w_iconst (v := 1) dX6_told_11 (by decide) ?_
    refine w_isub dX6_told_12 ?_
    refine w_iload_n dX6_told_13 rfl ?_
    refine w_bipush (v := 100) dX6_told_14 (by decide) ?_
    refine w_irem dX6_told_16 (by decide) ?_
    refine w_callVr dX6_told_17 k_X6_231 (pm_X6_toldOfSoul) rfl rfl rfl rfl (Nat.le_of_ble_eq_true rfl) (Nat.le_of_ble_eq_true rfl) (Nat.le_of_ble_eq_true rfl) (rc00 rfl (Nat.le_refl 0)) ?_
    exact w_iret dX6_told_20 rfl (by rw [cTld, if_neg c_3]; rfl) rfl rfl (Nat.le_refl 0)

theorem wput_app {q t2 : PH} {b : Nat} {S S2 : WS} (hq : q.length = b) : wput (q ++ (wc b S ++ t2)) b S2 = q ++ (wc b S2 ++ t2) := by
  subst hq
  unfold wput
  rw [List.take_left, List.drop_append, List.drop_of_length_le (by omega), Nat.add_sub_cancel_left, List.drop_append, List.drop_of_length_le (Nat.le_refl 9), show 9 - (wc q.length S).length = 0 from rfl]
  rfl
section PIMG
variable {N T : WS} {im : Nat → Option Nat} {ps mo op : Nat → Int32} {pn ta tb tw tp tn ka kf ks kc tot : Int32} {t : PH}
theorem xapp {u : PH} : (XH N im ps pn T ta tb tw tp tn ka kf ks kc mo op tot t) ++ u = (XH N im ps pn T ta tb tw tp tn ka kf ks kc mo op tot (t ++ u)) := rfl
theorem xpre : (XH N im ps pn T ta tb tw tp tn ka kf ks kc mo op tot t) = (XH N im ps pn T ta tb tw tp tn ka kf ks kc mo op tot []) ++ t := rfl
theorem xwi {t1 t2 : PH} {b : Nat} {S S2 : WS} (hb : t1.length + 28 = b) : wput (XH N im ps pn T ta tb tw tp tn ka kf ks kc mo op tot (t1 ++ (wc b S ++ t2))) b S2 = (XH N im ps pn T ta tb tw tp tn ka kf ks kc mo op tot (t1 ++ (wc b S2 ++ t2))) := by
  have e : ∀ S, (XH N im ps pn T ta tb tw tp tn ka kf ks kc mo op tot (t1 ++ (wc b S ++ t2))) = ((XH N im ps pn T ta tb tw tp tn ka kf ks kc mo op tot []) ++ t1) ++ (wc b S ++ t2) := fun S => by rw [List.append_assoc]; rfl
  rw [e, e, wput_app]
  rw [List.length_append, ← hb, Nat.add_comm]; rfl
theorem xat {j : Nat} : (XH N im ps pn T ta tb tw tp tn ka kf ks kc mo op tot t)[j + 28]? = t[j]? := rfl
theorem tat {t1 t2 : PH} {b k : Nat} {S : WS} {c : PC} (hb : t1.length + 28 = b) (hk : k < 9) (hc : (wc b S)[k]? = some c) : (XH N im ps pn T ta tb tw tp tn ka kf ks kc mo op tot (t1 ++ (wc b S ++ t2)))[b + k]? = some c := by
  subst hb
  rw [show t1.length + 28 + k = (t1.length + k) + 28 by omega, xat, List.getElem?_append_right (by omega), Nat.add_sub_cancel_left, List.getElem?_append_left (by exact hk)]
  exact hc
theorem tb8 {t1 t2 : PH} {b : Nat} {S : WS} (hb : t1.length + 28 = b) : b + 8 < (XH N im ps pn T ta tb tw tp tn ka kf ks kc mo op tot (t1 ++ (wc b S ++ t2))).length := by
  show b + 8 < (t1 ++ (wc b S ++ t2)).length + 28
  rw [List.length_append, List.length_append, show (wc b S).length = 9 from rfl]
  omega
end PIMG
theorem xI_copyFrom {l : Launch} {D : va_G} {N T : WS} {im : Nat → Option Nat} {ps mo op : Nat → Int32} {pn ta tb tw tp tn ka kf ks kc tot : Int32} {t1 t2 : PH} {b : Nat} {S : WS} (hb : t1.length + 28 = b) : PM l D YX5_copyFrom 1 [.ref b, .ref 1] (XH N im ps pn T ta tb tw tp tn ka kf ks kc mo op tot (t1 ++ (wc b S ++ t2))) 0 0 none (XH N im ps pn T ta tb tw tp tn ka kf ks kc mo op tot (t1 ++ (wc b (sCpy S N) ++ t2))) := by
  have := pm_X5_copyFrom (l := l) (D := D) (h := (XH N im ps pn T ta tb tw tp tn ka kf ks kc mo op tot (t1 ++ (wc b S ++ t2)))) (b := b) (S := S) (tb8 hb) (b2 := 1) (S2 := N) (fun S3 => by rw [xwi hb]; rfl) (fun S3 => by rw [xwi hb]; rfl) (fun S3 => by rw [xwi hb]; rfl) (fun S3 => by rw [xwi hb]; rfl) (fun S3 => by rw [xwi hb]; rfl) (fun S3 => by rw [xwi hb]; rfl) (fun S3 => by rw [xwi hb]; rfl) (fun S3 => by rw [xwi hb]; rfl) (fun S3 => by rw [xwi hb]; rfl)
  rw [xwi hb, xwi hb] at this
  exact this
theorem xN_copyI {l : Launch} {D : va_G} {N T : WS} {im : Nat → Option Nat} {ps mo op : Nat → Int32} {pn ta tb tw tp tn ka kf ks kc tot : Int32} {t1 t2 : PH} {b : Nat} {S : WS} (hb : t1.length + 28 = b) : PM l D YX5_copyFrom 1 [.ref 1, .ref b] (XH N im ps pn T ta tb tw tp tn ka kf ks kc mo op tot (t1 ++ (wc b S ++ t2))) 0 0 none (XH (sCpy N S) im ps pn T ta tb tw tp tn ka kf ks kc mo op tot (t1 ++ (wc b S ++ t2))) :=
  pm_X5_copyFrom (h := (XH N im ps pn T ta tb tw tp tn ka kf ks kc mo op tot (t1 ++ (wc b S ++ t2)))) (b := 1) (S := N) xb1 (b2 := b) (S2 := S) (fun S3 => tat (k := 0) hb (by decide) rfl) (fun S3 => tat (k := 1) hb (by decide) rfl) (fun S3 => tat (k := 2) hb (by decide) rfl) (fun S3 => tat (k := 3) hb (by decide) rfl) (fun S3 => tat (k := 4) hb (by decide) rfl) (fun S3 => tat (k := 5) hb (by decide) rfl) (fun S3 => tat (k := 6) hb (by decide) rfl) (fun S3 => tat (k := 7) hb (by decide) rfl) (fun S3 => tat (k := 8) hb (by decide) rfl)
set_option maxRecDepth 100000 in
set_option maxHeartbeats 4000000 in
theorem pm_X6_image_out {l : Launch} {D : va_G} {N T : WS} {im : Nat → Option Nat} {ps mo op : Nat → Int32} {pn ta tb tw tp tn ka kf ks kc tot : Int32} {t : PH} {n : Int32} (hn : sIn n 0 1 = false) : PM l D YX6_image 2 [.ref 0, .int n] (XH N im ps pn T ta tb tw tp tn ka kf ks kc mo op tot t) 0 0 (some (.int (-2))) (XH N im ps pn T ta tb tw tp tn ka kf ks kc mo op tot t) := by
  refine pm_of2 (n0 := (t.length + 28)) kb_YX6_image rfl [some (.ref 0), some (.int n), none] (fun _ => rfl) (fun _ => (Nat.le_of_ble_eq_true rfl)) ?_
  refine w_iload_n dX6_image_0 rfl ?_
  refine w_iconst (v := 0) dX6_image_1 (by decide) ?_
  refine w_iconst (v := 1) dX6_image_2 (by decide) ?_
  refine w_callSr dX6_image_3 k_X6_52 (pm_X6_isWithin) rfl rfl (Nat.le_of_ble_eq_true rfl) (Nat.le_of_ble_eq_true rfl) (Nat.le_of_ble_eq_true rfl) (rc00 rfl (Nat.le_refl 0)) ?_
  refine w_zif_ne_f dX6_image_6 ⟨12, by decide⟩ hn ?_
  refine w_bipush (v := (-2)) dX6_image_9 (by decide) ?_
  exact w_iret dX6_image_11 rfl rfl rfl rfl (Nat.le_refl 0)

set_option maxRecDepth 100000 in
set_option maxHeartbeats 4000000 in
theorem pm_X6_restore_out {l : Launch} {D : va_G} {N T : WS} {im : Nat → Option Nat} {ps mo op : Nat → Int32} {pn ta tb tw tp tn ka kf ks kc tot : Int32} {t : PH} {n : Int32} (hn : sIn n 0 1 = false) : PM l D YX6_restore 2 [.ref 0, .int n] (XH N im ps pn T ta tb tw tp tn ka kf ks kc mo op tot t) 0 0 (some (.int (-2))) (XH N im ps pn T ta tb tw tp tn ka kf ks kc mo op tot t) := by
  refine pm_of2 (n0 := (t.length + 28)) kb_YX6_restore rfl [some (.ref 0), some (.int n), none] (fun _ => rfl) (fun _ => (Nat.le_of_ble_eq_true rfl)) ?_
  refine w_iload_n dX6_restore_0 rfl ?_
  refine w_iconst (v := 0) dX6_restore_1 (by decide) ?_
  refine w_iconst (v := 1) dX6_restore_2 (by decide) ?_
  refine w_callSr dX6_restore_3 k_X6_52 (pm_X6_isWithin) rfl rfl (Nat.le_of_ble_eq_true rfl) (Nat.le_of_ble_eq_true rfl) (Nat.le_of_ble_eq_true rfl) (rc00 rfl (Nat.le_refl 0)) ?_
  refine w_zif_ne_f dX6_restore_6 ⟨12, by decide⟩ hn ?_
  refine w_bipush (v := (-2)) dX6_restore_9 (by decide) ?_
  exact w_iret dX6_restore_11 rfl rfl rfl rfl (Nat.le_refl 0)

theorem in01 {k : Nat} (hk : k < 2) : sIn (nI k) 0 1 = true := by
  match k, hk with
  | 0, _ => decide
  | 1, _ => decide
set_option maxRecDepth 100000 in
set_option maxHeartbeats 4000000 in
theorem pm_X6_restore_none {l : Launch} {D : va_G} {N T : WS} {im : Nat → Option Nat} {ps mo op : Nat → Int32} {pn ta tb tw tp tn ka kf ks kc tot : Int32} {t : PH} {k : Nat} (hk : k < 2) (him : im k = none) : PM l D YX6_restore 2 [.ref 0, .int (nI k)] (XH N im ps pn T ta tb tw tp tn ka kf ks kc mo op tot t) 0 0 (some (.int (-3))) (XH N im ps pn T ta tb tw tp tn ka kf ks kc mo op tot t) := by
  refine pm_of2 (n0 := (t.length + 28)) kb_YX6_restore rfl [some (.ref 0), some (.int (nI k)), none] (fun _ => rfl) (fun _ => (Nat.le_of_ble_eq_true rfl)) ?_
  refine w_iload_n dX6_restore_0 rfl ?_
  refine w_iconst (v := 0) dX6_restore_1 (by decide) ?_
  refine w_iconst (v := 1) dX6_restore_2 (by decide) ?_
  refine w_callSr dX6_restore_3 k_X6_52 (pm_X6_isWithin) rfl rfl (Nat.le_of_ble_eq_true rfl) (Nat.le_of_ble_eq_true rfl) (Nat.le_of_ble_eq_true rfl) (rc00 rfl (Nat.le_refl 0)) ?_
  refine w_zif_ne_t (tgt := 12) dX6_restore_6 (by decide) (in01 hk) ?_
  refine w_aload_n dX6_restore_12 rfl ?_
  refine w_get dX6_restore_13 f_X6_16 rfl rfl ?_
  refine w_iload_n dX6_restore_16 rfl ?_
  refine w_aald dX6_restore_17 rfl (vp_in_nI (by omega) (by decide)) ?_
  rw [nI_clamp (show k < 2 ^ 31 by omega), him]
  change Wp _ _ _ _ _ _ _ _ _ [.null] _ _
  refine w_astoreN_2 dX6_restore_18 (Nat.le_of_ble_eq_true rfl) rfl ?_
  refine w_aload_nN dX6_restore_19 rfl ?_
  refine w_ifnonnullN dX6_restore_20 ?_
  refine w_bipush (v := (-3)) dX6_restore_23 (by decide) ?_
  exact w_iret dX6_restore_25 rfl rfl rfl rfl (Nat.le_refl 0)

set_option maxRecDepth 100000 in
set_option maxHeartbeats 4000000 in
theorem pm_X6_restore_some {l : Launch} {D : va_G} {N T : WS} {im : Nat → Option Nat} {ps mo op : Nat → Int32} {pn ta tb tw tp tn ka kf ks kc tot : Int32} {k : Nat} (hk : k < 2) {t1 t2 : PH} {b : Nat} {S : WS} (hb : t1.length + 28 = b) (him : im k = some b) : PM l D YX6_restore 2 [.ref 0, .int (nI k)] (XH N im ps pn T ta tb tw tp tn ka kf ks kc mo op tot (t1 ++ (wc b S ++ t2))) 0 0 (some (.int 1)) (XH (sCpy N S) im ps pn T ta tb tw tp tn ka kf ks kc mo op tot (t1 ++ (wc b S ++ t2))) := by
  refine pm_of2 (n0 := ((t1 ++ (wc b S ++ t2)).length + 28)) kb_YX6_restore rfl [some (.ref 0), some (.int (nI k)), none] (fun _ => rfl) (fun _ => (Nat.le_of_ble_eq_true rfl)) ?_
  refine w_iload_n dX6_restore_0 rfl ?_
  refine w_iconst (v := 0) dX6_restore_1 (by decide) ?_
  refine w_iconst (v := 1) dX6_restore_2 (by decide) ?_
  refine w_callSr dX6_restore_3 k_X6_52 (pm_X6_isWithin) rfl rfl (Nat.le_of_ble_eq_true rfl) (Nat.le_of_ble_eq_true rfl) (Nat.le_of_ble_eq_true rfl) (rc00 rfl (Nat.le_refl 0)) ?_
  refine w_zif_ne_t (tgt := 12) dX6_restore_6 (by decide) (in01 hk) ?_
  refine w_aload_n dX6_restore_12 rfl ?_
  refine w_get dX6_restore_13 f_X6_16 rfl rfl ?_
  refine w_iload_n dX6_restore_16 rfl ?_
  refine w_aald dX6_restore_17 rfl (vp_in_nI (by omega) (by decide)) ?_
  rw [nI_clamp (show k < 2 ^ 31 by omega), him]
  change Wp _ _ _ _ _ _ _ _ _ [.ref b] _ _
  refine w_astore_2 dX6_restore_18 (Nat.le_of_ble_eq_true rfl) rfl ?_
  refine w_aload_n dX6_restore_19 rfl ?_
  refine w_ifnonnull (tgt := 26) dX6_restore_20 (by decide) ?_
  refine w_aload_n dX6_restore_26 rfl ?_
  refine w_get dX6_restore_27 f_X6_10 rfl rfl ?_
  refine w_aload_n dX6_restore_30 rfl ?_
  refine w_callVv dX6_restore_31 k_X6_110 (xN_copyI hb) rfl rfl rfl rfl (Nat.le_of_ble_eq_true rfl) (Nat.le_of_ble_eq_true rfl) (Nat.le_of_ble_eq_true rfl) (rc00 rfl (Nat.le_refl 0)) ?_
  refine w_iconst (v := 1) dX6_restore_34 (by decide) ?_
  exact w_iret dX6_restore_35 rfl rfl rfl rfl (Nat.le_refl 0)

set_option maxRecDepth 100000 in
set_option maxHeartbeats 4000000 in
theorem pm_X6_image_some {l : Launch} {D : va_G} {N T : WS} {im : Nat → Option Nat} {ps mo op : Nat → Int32} {pn ta tb tw tp tn ka kf ks kc tot : Int32} {k : Nat} (hk : k < 2) {t1 t2 : PH} {b : Nat} {S : WS} (hb : t1.length + 28 = b) (him : im k = some b) : PM l D YX6_image 2 [.ref 0, .int (nI k)] (XH N im ps pn T ta tb tw tp tn ka kf ks kc mo op tot (t1 ++ (wc b S ++ t2))) 0 0 (some (.int 1)) (XH N im ps pn T ta tb tw tp tn ka kf ks kc mo op tot (t1 ++ (wc b (sCpy S N) ++ t2))) := by
  refine pm_of2 (n0 := ((t1 ++ (wc b S ++ t2)).length + 28)) kb_YX6_image rfl [some (.ref 0), some (.int (nI k)), none] (fun _ => rfl) (fun _ => (Nat.le_of_ble_eq_true rfl)) ?_
  refine w_iload_n dX6_image_0 rfl ?_
  refine w_iconst (v := 0) dX6_image_1 (by decide) ?_
  refine w_iconst (v := 1) dX6_image_2 (by decide) ?_
  refine w_callSr dX6_image_3 k_X6_52 (pm_X6_isWithin) rfl rfl (Nat.le_of_ble_eq_true rfl) (Nat.le_of_ble_eq_true rfl) (Nat.le_of_ble_eq_true rfl) (rc00 rfl (Nat.le_refl 0)) ?_
  refine w_zif_ne_t (tgt := 12) dX6_image_6 (by decide) (in01 hk) ?_
  refine w_aload_n dX6_image_12 rfl ?_
  refine w_get dX6_image_13 f_X6_16 rfl rfl ?_
  refine w_iload_n dX6_image_16 rfl ?_
  refine w_aald dX6_image_17 rfl (vp_in_nI (by omega) (by decide)) ?_
  rw [nI_clamp (show k < 2 ^ 31 by omega), him]
  change Wp _ _ _ _ _ _ _ _ _ [.ref b] _ _
  refine w_astore_2 dX6_image_18 (Nat.le_of_ble_eq_true rfl) rfl ?_
  refine w_aload_n dX6_image_19 rfl ?_
  refine w_ifnonnull (tgt := 38) dX6_image_20 (by decide) ?_
  refine w_aload_n dX6_image_38 rfl ?_
  refine w_aload_n dX6_image_39 rfl ?_
  refine w_get dX6_image_40 f_X6_10 rfl rfl ?_
  refine w_callVv dX6_image_43 k_X6_110 (xI_copyFrom hb) rfl rfl (tat (k := 0) hb (by decide) rfl) rfl (Nat.le_of_ble_eq_true rfl) (Nat.le_of_ble_eq_true rfl) (Nat.le_of_ble_eq_true rfl) (rc00 rfl (Nat.le_refl 0)) ?_
  refine w_iconst (v := 1) dX6_image_46 (by decide) ?_
  exact w_iret dX6_image_47 rfl rfl rfl (by show (t1 ++ (wc b (sCpy S N) ++ t2)).length + 28 = (t1 ++ (wc b S ++ t2)).length + 28; simp only [List.length_append]; rfl) (Nat.le_refl 0)

