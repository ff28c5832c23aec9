def fLh (N : WS) (w : Int32) (i : Nat) (a : Int32) : Int32 := if sBit (wop N) (nI i) then a else imax a (bc (w &&& wsm N i) + 1)
def fMh (N : WS) (w : Int32) (i : Nat) (a : Int32) : Int32 := if sBit (wop N) (nI i) then imin a (bc (w &&& wsm N i)) else a
def lH (N : WS) (g : Nat) (w : Int32) : Int32 := iter (fLh N w) g 1
def mH (N : WS) (g : Nat) (w : Int32) : Int32 := iter (fMh N w) g (bc w)
def fOp (N : WS) (w lo hi : Int32) (i : Nat) (f : Nat → Int32) : Nat → Int32 := upd f i (f i + imax 0 (imin hi (bc (w &&& wmk N i)) - lo + 1))
def wwO (N : WS) (w lo hi : Int32) (f : Nat → Int32) : Nat → Int32 := if lo ≤ hi then iter (fOp N w lo hi) 8 f else f
def wwT (lo hi tot : Int32) : Int32 := if lo ≤ hi then tot + (hi - lo + 1) else tot
def wlO (N : WS) (g : Nat) : Nat → (Nat → Int32) → (Nat → Int32) := iter (fun j f => wwO N (nI (j + 1)) (lH N g (nI (j + 1))) (mH N g (nI (j + 1))) f)
def wlT (N : WS) (g : Nat) : Nat → Int32 → Int32 := iter (fun j a => wwT (lH N g (nI (j + 1))) (mH N g (nI (j + 1))) a)
def zO : Nat → (Nat → Int32) → Nat → Int32 := iter (fun i f => upd f i 0)
def lFit (N : WS) (g : Nat) (w : Int32) : Int32 := imax 0 (mH N g w - lH N g w + 1)
def laGo (N : WS) (g : Nat) (i : Int32) : Nat → Nat → Int32 → Int32
  | 0, _, _ => -6
  | k + 1, w, a => if lFit N g (nI w) ≤ i - a then laGo N g i k (w + 1) (a + lFit N g (nI w)) else 10 * nI w + lH N g (nI w) + i - a
def sLaw (N : WS) (g : Nat) (i : Int32) : Int32 := if 0 ≤ i then laGo N g i 255 1 0 else -6
def sMl (op : Nat → Int32) (tot s : Int32) : Int32 := if sSoul s then imax (op s.toNatClampNeg) (tot - op s.toNatClampNeg) else -6
def fTt (N : WS) (op : Nat → Int32) (tot : Int32) (i : Nat) (b : Int32) : Int32 := if sLiv N (nI i) then (if b = -6 then nI i else if sMl op tot b ≤ sMl op tot (nI i) then b else nI i) else b
def sTt (N : WS) (op : Nat → Int32) (tot : Int32) : Int32 := if tot ≤ 0 then -6 else iter (fTt N op tot) 8 (-6)
set_option maxRecDepth 100000 in
set_option maxHeartbeats 4000000 in
theorem pm_X1_leastHits {l : Launch} {D : va_G} {N T : WS} {im : Nat → Option Nat} {ps mo op : Nat → Int32} {pn ta tb tw tp tn ka kf ks kc tot : Int32} {t : PH} {g : Nat} (hg : g ≤ 8) (hs : wsg N = nI g) {w : Int32} : PM l D YX1_leastHits 2 [.ref 1, .int w] (XH N im ps pn T ta tb tw tp tn ka kf ks kc mo op tot t) 0 0 (some (.int (lH N g w))) (XH N im ps pn T ta tb tw tp tn ka kf ks kc mo op tot t) := by
  refine pm_of2 (n0 := (t.length + 28)) kb_YX1_leastHits rfl [some (.ref 1), some (.int w), none, none] (fun _ => rfl) (fun _ => (Nat.le_of_ble_eq_true rfl)) ?_
  have loop : ∀ (k i : Nat), i + k = g → Wp l D YX1_leastHits (pRm 2 0 0) (t.length + 28) (fun _ _ _ => True) (mE D (t.length + 28) 0 0 (some (.int (lH N g w))) (XH N im ps pn T ta tb tw tp tn ka kf ks kc mo op tot t)) 4 [some (.ref 1), some (.int w), some (.int (iter (fLh N w) i 1)), some (.int (nI i))] [] (XH N im ps pn T ta tb tw tp tn ka kf ks kc mo op tot t) 0 := by
    intro k
    induction k with
    | zero =>
      intro i hi
      have hi : i = g := by omega
      subst hi
      refine w_iload_n dX1_leastHits_4 rfl ?_
      refine w_aload_n dX1_leastHits_5 rfl ?_
      refine w_get dX1_leastHits_6 f_X1_19 rfl rfl ?_
      refine w_icmp_ge_t (tgt := 47) dX1_leastHits_9 (by decide) (by rw [hs]; exact Int32.le_refl _) ?_
      refine w_iload_n dX1_leastHits_47 rfl ?_
      exact w_iret dX1_leastHits_48 rfl rfl rfl rfl (Nat.le_refl 0)
    | succ k ih =>
      intro i hi
      refine w_iload_n dX1_leastHits_4 rfl ?_
      refine w_aload_n dX1_leastHits_5 rfl ?_
      refine w_get dX1_leastHits_6 f_X1_19 rfl rfl ?_
      refine w_icmp_ge_f dX1_leastHits_9 ⟨47, by decide⟩ (by rw [hs]; exact nI_ge (by omega) (by omega)) ?_
      refine w_aload_n dX1_leastHits_12 rfl ?_
      refine w_get dX1_leastHits_13 f_X1_24 rfl rfl ?_
      refine w_iload_n dX1_leastHits_16 rfl ?_
      refine w_callSr dX1_leastHits_17 k_X1_27 (pm_X6_hasBit) rfl rfl (Nat.le_of_ble_eq_true rfl) (Nat.le_of_ble_eq_true rfl) (Nat.le_of_ble_eq_true rfl) (rc00 rfl (Nat.le_refl 0)) ?_
      refine w_zif_ne (tgt := 41) dX1_leastHits_20 (by decide) (fun c_20 => ?_) (fun c_20 => ?_)
      · skip
        refine w_iinc_3 (v := 1) dX1_leastHits_41 (by decide) (Nat.le_of_ble_eq_true rfl) rfl ?_
        refine w_goto (tgt := 4) dX1_leastHits_44 (by decide) ?_
        refine w_loc_3 (nI_1 i) (w_loc_2 ?_ (ih (i + 1) (by omega)))
        show _ = fLh N w i _
        simp only [fLh, fMh, c_20, if_true, if_false, Bool.false_eq_true]
        try rw [nI_clamp (by omega)]
        try rfl
      · skip
        refine w_iload_n dX1_leastHits_23 rfl ?_
        refine w_iload_n dX1_leastHits_24 rfl ?_
        refine w_aload_n dX1_leastHits_25 rfl ?_
        refine w_get dX1_leastHits_26 f_X1_31 rfl rfl ?_
        refine w_iload_n dX1_leastHits_29 rfl ?_
        refine w_iald dX1_leastHits_30 rfl (vp_in_nI (by omega) (by decide)) ?_
        refine w_iand dX1_leastHits_31 ?_
        refine w_callSr dX1_leastHits_32 k_X1_34 (pm_bitCount) rfl rfl (Nat.le_of_ble_eq_true rfl) (Nat.le_of_ble_eq_true rfl) (Nat.le_of_ble_eq_true rfl) (rc00 rfl (Nat.le_refl 0)) ?_
        refine w_iconst (v := 1) dX1_leastHits_35 (by decide) ?_
        refine w_iadd dX1_leastHits_36 ?_
        refine w_mmax dX1_leastHits_37 m_X1_40 (Nat.le_of_ble_eq_true rfl) (Nat.le_of_ble_eq_true rfl) (Nat.le_of_ble_eq_true rfl) (rc01 rfl (Nat.le_refl 0)) ?_
        refine w_istore_2 dX1_leastHits_40 (Nat.le_of_ble_eq_true rfl) rfl ?_
        refine w_iinc_3 (v := 1) dX1_leastHits_41 (by decide) (Nat.le_of_ble_eq_true rfl) rfl ?_
        refine w_goto (tgt := 4) dX1_leastHits_44 (by decide) ?_
        refine w_loc_3 (nI_1 i) (w_loc_2 ?_ (ih (i + 1) (by omega)))
        show _ = fLh N w i _
        simp only [fLh, fMh, c_20, if_true, if_false, Bool.false_eq_true]
        try rw [nI_clamp (by omega)]
        try rfl
  refine w_iconst (v := 1) dX1_leastHits_0 (by decide) ?_
  refine w_istore_2 dX1_leastHits_1 (Nat.le_of_ble_eq_true rfl) rfl ?_
  refine w_iconst (v := 0) dX1_leastHits_2 (by decide) ?_
  refine w_istore_3 dX1_leastHits_3 (Nat.le_of_ble_eq_true rfl) rfl ?_
  exact loop g 0 (by omega)

set_option maxRecDepth 100000 in
set_option maxHeartbeats 4000000 in
theorem pm_X1_mostHits {l : Launch} {D : va_G} {N T : WS} {im : Nat → Option Nat} {ps mo op : Nat → Int32} {pn ta tb tw tp tn ka kf ks kc tot : Int32} {t : PH} {g : Nat} (hg : g ≤ 8) (hs : wsg N = nI g) {w : Int32} : PM l D YX1_mostHits 2 [.ref 1, .int w] (XH N im ps pn T ta tb tw tp tn ka kf ks kc mo op tot t) 0 0 (some (.int (mH N g w))) (XH N im ps pn T ta tb tw tp tn ka kf ks kc mo op tot t) := by
  refine pm_of2 (n0 := (t.length + 28)) kb_YX1_mostHits rfl [some (.ref 1), some (.int w), none, none] (fun _ => rfl) (fun _ => (Nat.le_of_ble_eq_true rfl)) ?_
  have loop : ∀ (k i : Nat), i + k = g → Wp l D YX1_mostHits (pRm 2 0 0) (t.length + 28) (fun _ _ _ => True) (mE D (t.length + 28) 0 0 (some (.int (mH N g w))) (XH N im ps pn T ta tb tw tp tn ka kf ks kc mo op tot t)) 7 [some (.ref 1), some (.int w), some (.int (iter (fMh N w) i (bc w))), some (.int (nI i))] [] (XH N im ps pn T ta tb tw tp tn ka kf ks kc mo op tot t) 0 := by
    intro k
    induction k with
    | zero =>
      intro i hi
      have hi : i = g := by omega
      subst hi
      refine w_iload_n dX1_mostHits_7 rfl ?_
      refine w_aload_n dX1_mostHits_8 rfl ?_
      refine w_get dX1_mostHits_9 f_X1_19 rfl rfl ?_
      refine w_icmp_ge_t (tgt := 48) dX1_mostHits_12 (by decide) (by rw [hs]; exact Int32.le_refl _) ?_
      refine w_iload_n dX1_mostHits_48 rfl ?_
      exact w_iret dX1_mostHits_49 rfl rfl rfl rfl (Nat.le_refl 0)
    | succ k ih =>
      intro i hi
      refine w_iload_n dX1_mostHits_7 rfl ?_
      refine w_aload_n dX1_mostHits_8 rfl ?_
      refine w_get dX1_mostHits_9 f_X1_19 rfl rfl ?_
      refine w_icmp_ge_f dX1_mostHits_12 ⟨48, by decide⟩ (by rw [hs]; exact nI_ge (by omega) (by omega)) ?_
      refine w_aload_n dX1_mostHits_15 rfl ?_
      refine w_get dX1_mostHits_16 f_X1_24 rfl rfl ?_
      refine w_iload_n dX1_mostHits_19 rfl ?_
      refine w_callSr dX1_mostHits_20 k_X1_27 (pm_X6_hasBit) rfl rfl (Nat.le_of_ble_eq_true rfl) (Nat.le_of_ble_eq_true rfl) (Nat.le_of_ble_eq_true rfl) (rc00 rfl (Nat.le_refl 0)) ?_
      refine w_zif_eq (tgt := 42) dX1_mostHits_23 (by decide) (fun c_23 => ?_) (fun c_23 => ?_)
      · skip
        refine w_iinc_3 (v := 1) dX1_mostHits_42 (by decide) (Nat.le_of_ble_eq_true rfl) rfl ?_
        refine w_goto (tgt := 7) dX1_mostHits_45 (by decide) ?_
        refine w_loc_3 (nI_1 i) (w_loc_2 ?_ (ih (i + 1) (by omega)))
        show _ = fMh N w i _
        simp only [fLh, fMh, c_23, if_true, if_false, Bool.false_eq_true]
        try rw [nI_clamp (by omega)]
        try rfl
      · skip
        refine w_iload_n dX1_mostHits_26 rfl ?_
        refine w_iload_n dX1_mostHits_27 rfl ?_
        refine w_aload_n dX1_mostHits_28 rfl ?_
        refine w_get dX1_mostHits_29 f_X1_31 rfl rfl ?_
        refine w_iload_n dX1_mostHits_32 rfl ?_
        refine w_iald dX1_mostHits_33 rfl (vp_in_nI (by omega) (by decide)) ?_
        refine w_iand dX1_mostHits_34 ?_
        refine w_callSr dX1_mostHits_35 k_X1_34 (pm_bitCount) rfl rfl (Nat.le_of_ble_eq_true rfl) (Nat.le_of_ble_eq_true rfl) (Nat.le_of_ble_eq_true rfl) (rc00 rfl (Nat.le_refl 0)) ?_
        refine w_mmin dX1_mostHits_38 m_X1_46 (Nat.le_of_ble_eq_true rfl) (Nat.le_of_ble_eq_true rfl) (Nat.le_of_ble_eq_true rfl) (rc01 rfl (Nat.le_refl 0)) ?_
        refine w_istore_2 dX1_mostHits_41 (Nat.le_of_ble_eq_true rfl) rfl ?_
        refine w_iinc_3 (v := 1) dX1_mostHits_42 (by decide) (Nat.le_of_ble_eq_true rfl) rfl ?_
        refine w_goto (tgt := 7) dX1_mostHits_45 (by decide) ?_
        refine w_loc_3 (nI_1 i) (w_loc_2 ?_ (ih (i + 1) (by omega)))
        show _ = fMh N w i _
        simp only [fLh, fMh, c_23, if_true, if_false, Bool.false_eq_true]
        try rw [nI_clamp (by omega)]
        try rfl
  refine w_iload_n dX1_mostHits_0 rfl ?_
  refine w_callSr dX1_mostHits_1 k_X1_34 (pm_bitCount) rfl rfl (Nat.le_of_ble_eq_true rfl) (Nat.le_of_ble_eq_true rfl) (Nat.le_of_ble_eq_true rfl) (rc00 rfl (Nat.le_refl 0)) ?_
  refine w_istore_2 dX1_mostHits_4 (Nat.le_of_ble_eq_true rfl) rfl ?_
  refine w_iconst (v := 0) dX1_mostHits_5 (by decide) ?_
  refine w_istore_3 dX1_mostHits_6 (Nat.le_of_ble_eq_true rfl) rfl ?_
  exact loop g 0 (by omega)

set_option maxRecDepth 100000 in
set_option maxHeartbeats 4000000 in
theorem pm_X1_weighWants {l : Launch} {D : va_G} {N T : WS} {im : Nat → Option Nat} {ps mo op : Nat → Int32} {pn ta tb tw tp tn ka kf ks kc tot : Int32} {t : PH} {w lo hi : Int32} : PM l D YX1_weighWants 2 [.ref 26, .ref 1, .int w, .int lo, .int hi] (XH N im ps pn T ta tb tw tp tn ka kf ks kc mo op tot t) 0 0 none (XH N im ps pn T ta tb tw tp tn ka kf ks kc mo (wwO N w lo hi op) (wwT lo hi tot) t) := by
  refine pm_of2 (n0 := (t.length + 28)) kb_YX1_weighWants rfl [some (.ref 26), some (.ref 1), some (.int w), some (.int lo), some (.int hi), none, none] (fun _ => rfl) (fun _ => (Nat.le_of_ble_eq_true rfl)) ?_
  have loop : lo ≤ hi → ∀ (k i : Nat), i + k = 8 → ∀ o, Wp l D YX1_weighWants (pRm 2 0 0) (t.length + 28) (fun _ _ _ => True) (mE D (t.length + 28) 0 0 none (XH N im ps pn T ta tb tw tp tn ka kf ks kc mo (wwO N w lo hi op) (wwT lo hi tot) t)) 25 [some (.ref 26), some (.ref 1), some (.int w), some (.int lo), some (.int hi), some (.int (nI i)), o] [] (XH N im ps pn T ta tb tw tp tn ka kf ks kc mo (iter (fOp N w lo hi) i op) (tot + (hi - lo + 1)) t) 0 := by
    intro hlh k
    induction k with
    | zero =>
      intro i hi2 o
      have hi2 : i = 8 := by omega
      subst hi2
      refine w_iload dX1_weighWants_25 rfl ?_
      refine w_bipush (v := 8) dX1_weighWants_27 (by decide) ?_
      refine w_icmp_ge_t (tgt := 77) dX1_weighWants_29 (by decide) (Int32.le_refl _) ?_
      exact w_vret dX1_weighWants_77 rfl (by rw [wwO, wwT, if_pos hlh, if_pos hlh]) rfl (Nat.le_refl 0)
    | succ k ih =>
      intro i hi2 o
      refine w_iload dX1_weighWants_25 rfl ?_
      refine w_bipush (v := 8) dX1_weighWants_27 (by decide) ?_
      refine w_icmp_ge_f dX1_weighWants_29 ⟨77, by decide⟩ (lp_g hi2 (by decide) rfl) ?_
      refine w_iload dX1_weighWants_32 rfl ?_
      refine w_iload_n dX1_weighWants_34 rfl ?_
      refine w_aload_n dX1_weighWants_35 rfl ?_
      refine w_get dX1_weighWants_36 f_X1_64 rfl rfl ?_
      refine w_iload dX1_weighWants_39 rfl ?_
      refine w_iald dX1_weighWants_41 rfl (vp_in_nI (by omega) (by decide)) ?_
      refine w_iand dX1_weighWants_42 ?_
      refine w_callSr dX1_weighWants_43 k_X1_34 (pm_bitCount) rfl rfl (Nat.le_of_ble_eq_true rfl) (Nat.le_of_ble_eq_true rfl) (Nat.le_of_ble_eq_true rfl) (rc00 rfl (Nat.le_refl 0)) ?_
      refine w_mmin dX1_weighWants_46 m_X1_46 (Nat.le_of_ble_eq_true rfl) (Nat.le_of_ble_eq_true rfl) (Nat.le_of_ble_eq_true rfl) (rc01 rfl (Nat.le_refl 0)) ?_
      refine w_istore_6 dX1_weighWants_49 (Nat.le_of_ble_eq_true rfl) rfl ?_
      refine w_aload_n dX1_weighWants_51 rfl ?_
      refine w_get dX1_weighWants_52 f_X1_9 rfl rfl ?_
      refine w_iload dX1_weighWants_55 rfl ?_
      refine w_dup2 dX1_weighWants_57 rfl rfl ?_
      refine w_iald dX1_weighWants_58 rfl (vp_in_nI (by omega) (by decide)) ?_
      refine w_iconst (v := 0) dX1_weighWants_59 (by decide) ?_
      refine w_iload dX1_weighWants_60 rfl ?_
      refine w_iload_n dX1_weighWants_62 rfl ?_
      refine w_isub dX1_weighWants_63 ?_
      refine w_iconst (v := 1) dX1_weighWants_64 (by decide) ?_
      refine w_iadd dX1_weighWants_65 ?_
      refine w_mmax dX1_weighWants_66 m_X1_40 (Nat.le_of_ble_eq_true rfl) (Nat.le_of_ble_eq_true rfl) (Nat.le_of_ble_eq_true rfl) (rc01 rfl (Nat.le_refl 0)) ?_
      refine w_iadd dX1_weighWants_69 ?_
      refine x_aL0 dX1_weighWants_70 (vp_in_nI (by omega) (by decide)) ?_
      refine w_iinc_5 (v := 1) dX1_weighWants_71 (by decide) (Nat.le_of_ble_eq_true rfl) rfl ?_
      refine w_goto (tgt := 25) dX1_weighWants_74 (by decide) ?_
      rw [nI_clamp (show i < 2 ^ 31 by omega)]
      exact w_loc_5 (nI_1 i) (ih (i + 1) (by omega) _)
  refine w_iload_n dX1_weighWants_0 rfl ?_
  refine w_iload dX1_weighWants_1 rfl ?_
  refine w_icmp_le (tgt := 7) dX1_weighWants_3 (by decide) (fun c_3 => ?_) (fun c_3 => ?_)
  · skip
    refine w_aload_n dX1_weighWants_7 rfl ?_
    refine w_dup dX1_weighWants_8 rfl ?_
    refine w_get dX1_weighWants_9 f_X1_15 rfl rfl ?_
    refine w_iload dX1_weighWants_12 rfl ?_
    refine w_iload_n dX1_weighWants_14 rfl ?_
    refine w_isub dX1_weighWants_15 ?_
    refine w_iconst (v := 1) dX1_weighWants_16 (by decide) ?_
    refine w_iadd dX1_weighWants_17 ?_
    refine w_iadd dX1_weighWants_18 ?_
    refine x_pL1 dX1_weighWants_19 f_X1_15 ?_
    refine w_iconst (v := 0) dX1_weighWants_22 (by decide) ?_
    refine w_istore_5 dX1_weighWants_23 (Nat.le_of_ble_eq_true rfl) rfl ?_
    exact loop c_3 8 0 rfl _
  · skip
    exact w_vret dX1_weighWants_6 rfl (by rw [wwO, wwT, if_neg c_3, if_neg c_3]) rfl (Nat.le_refl 0)

set_option maxRecDepth 100000 in
set_option maxHeartbeats 4000000 in
theorem pm_X1_weigh {l : Launch} {D : va_G} {N T : WS} {im : Nat → Option Nat} {ps mo op : Nat → Int32} {pn ta tb tw tp tn ka kf ks kc tot : Int32} {t : PH} {g : Nat} (hg : g ≤ 8) (hs : wsg N = nI g) : PM l D YX1_weigh 3 [.ref 26, .ref 1] (XH N im ps pn T ta tb tw tp tn ka kf ks kc mo op tot t) 0 0 none (XH N im ps pn T ta tb tw tp tn ka kf ks kc mo (wlO N g 255 (zO 8 op)) (wlT N g 255 0) t) := by
  refine pm_of2 (n0 := (t.length + 28)) kb_YX1_weigh rfl [some (.ref 26), some (.ref 1), none] (fun _ => rfl) (fun _ => (Nat.le_of_ble_eq_true rfl)) ?_
  have loop2 : ∀ (k j : Nat), j + k = 255 → Wp l D YX1_weigh (pRm 3 0 0) (t.length + 28) (fun _ _ _ => True) (mE D (t.length + 28) 0 0 none (XH N im ps pn T ta tb tw tp tn ka kf ks kc mo (wlO N g 255 (zO 8 op)) (wlT N g 255 0) t)) 28 [some (.ref 26), some (.ref 1), some (.int (nI (j + 1)))] [] (XH N im ps pn T ta tb tw tp tn ka kf ks kc mo (wlO N g j (zO 8 op)) (wlT N g j 0) t) 0 := by
    intro k
    induction k with
    | zero =>
      intro j hj
      have hj : j = 255 := by omega
      subst hj
      refine w_iload_n dX1_weigh_28 rfl ?_
      refine w_sipush (v := 255) dX1_weigh_29 (by decide) ?_
      refine w_icmp_gt_t (tgt := 57) dX1_weigh_32 (by decide) (nI_lt (a := 255) (by omega) (by decide)) ?_
      exact w_vret dX1_weigh_57 rfl rfl rfl (Nat.le_refl 0)
    | succ k ih =>
      intro j hj
      refine w_iload_n dX1_weigh_28 rfl ?_
      refine w_sipush (v := 255) dX1_weigh_29 (by decide) ?_
      refine w_icmp_gt_f dX1_weigh_32 ⟨57, by decide⟩ (nI_nlt (a := 255) (b := j + 1) (by omega) (by decide)) ?_
      refine w_aload_n dX1_weigh_35 rfl ?_
      refine w_aload_n dX1_weigh_36 rfl ?_
      refine w_iload_n dX1_weigh_37 rfl ?_
      refine w_aload_n dX1_weigh_38 rfl ?_
      refine w_iload_n dX1_weigh_39 rfl ?_
      refine w_callSr dX1_weigh_40 k_X1_53 (pm_X1_leastHits hg hs) rfl rfl (Nat.le_of_ble_eq_true rfl) (Nat.le_of_ble_eq_true rfl) (Nat.le_of_ble_eq_true rfl) (rc00 rfl (Nat.le_refl 0)) ?_
      refine w_aload_n dX1_weigh_43 rfl ?_
      refine w_iload_n dX1_weigh_44 rfl ?_
      refine w_callSr dX1_weigh_45 k_X1_57 (pm_X1_mostHits hg hs) rfl rfl (Nat.le_of_ble_eq_true rfl) (Nat.le_of_ble_eq_true rfl) (Nat.le_of_ble_eq_true rfl) (rc00 rfl (Nat.le_refl 0)) ?_
      refine w_callVv dX1_weigh_48 k_X1_60 (pm_X1_weighWants) rfl rfl rfl rfl (Nat.le_of_ble_eq_true rfl) (Nat.le_of_ble_eq_true rfl) (Nat.le_of_ble_eq_true rfl) (rc00 rfl (Nat.le_refl 0)) ?_
      refine w_iinc_2 (v := 1) dX1_weigh_51 (by decide) (Nat.le_of_ble_eq_true rfl) rfl ?_
      refine w_goto (tgt := 28) dX1_weigh_54 (by decide) ?_
      exact w_loc_2 (nI_1 (j + 1)) (ih (j + 1) (by omega))
  have loop1 : ∀ (k i : Nat), i + k = 8 → Wp l D YX1_weigh (pRm 3 0 0) (t.length + 28) (fun _ _ _ => True) (mE D (t.length + 28) 0 0 none (XH N im ps pn T ta tb tw tp tn ka kf ks kc mo (wlO N g 255 (zO 8 op)) (wlT N g 255 0) t)) 7 [some (.ref 26), some (.ref 1), some (.int (nI i))] [] (XH N im ps pn T ta tb tw tp tn ka kf ks kc mo (zO i op) 0 t) 0 := by
    intro k
    induction k with
    | zero =>
      intro i hi
      have hi : i = 8 := by omega
      subst hi
      refine w_iload_n dX1_weigh_7 rfl ?_
      refine w_bipush (v := 8) dX1_weigh_8 (by decide) ?_
      refine w_icmp_ge_t (tgt := 26) dX1_weigh_10 (by decide) (Int32.le_refl _) ?_
      refine w_iconst (v := 1) dX1_weigh_26 (by decide) ?_
      refine w_istore_2 dX1_weigh_27 (Nat.le_of_ble_eq_true rfl) rfl ?_
      exact loop2 255 0 rfl
    | succ k ih =>
      intro i hi
      refine w_iload_n dX1_weigh_7 rfl ?_
      refine w_bipush (v := 8) dX1_weigh_8 (by decide) ?_
      refine w_icmp_ge_f dX1_weigh_10 ⟨26, by decide⟩ (lp_g hi (by decide) rfl) ?_
      refine w_aload_n dX1_weigh_13 rfl ?_
      refine w_get dX1_weigh_14 f_X1_9 rfl rfl ?_
      refine w_iload_n dX1_weigh_17 rfl ?_
      refine w_iconst (v := 0) dX1_weigh_18 (by decide) ?_
      refine x_aL0 dX1_weigh_19 (vp_in_nI (by omega) (by decide)) ?_
      refine w_iinc_2 (v := 1) dX1_weigh_20 (by decide) (Nat.le_of_ble_eq_true rfl) rfl ?_
      refine w_goto (tgt := 7) dX1_weigh_23 (by decide) ?_
      rw [nI_clamp (show i < 2 ^ 31 by omega)]
      exact w_loc_2 (nI_1 i) (ih (i + 1) (by omega))
  refine w_aload_n dX1_weigh_0 rfl ?_
  refine w_iconst (v := 0) dX1_weigh_1 (by decide) ?_
  refine x_pL1 dX1_weigh_2 f_X1_15 ?_
  refine w_iconst (v := 0) dX1_weigh_5 (by decide) ?_
  refine w_istore_2 dX1_weigh_6 (Nat.le_of_ble_eq_true rfl) rfl ?_
  exact loop1 8 0 rfl

set_option maxRecDepth 100000 in
set_option maxHeartbeats 4000000 in
theorem pm_X1_howMany {l : Launch} {D : va_G} {N T : WS} {im : Nat → Option Nat} {ps mo op : Nat → Int32} {pn ta tb tw tp tn ka kf ks kc tot : Int32} {t : PH} {g : Nat} (hg : g ≤ 8) (hs : wsg N = nI g) : PM l D YX1_howMany 4 [.ref 26, .ref 1] (XH N im ps pn T ta tb tw tp tn ka kf ks kc mo op tot t) 0 0 (some (.int (wlT N g 255 0))) (XH N im ps pn T ta tb tw tp tn ka kf ks kc mo (wlO N g 255 (zO 8 op)) (wlT N g 255 0) t) := by
  refine pm_of2 (n0 := (t.length + 28)) kb_YX1_howMany rfl [some (.ref 26), some (.ref 1)] (fun _ => rfl) (fun _ => (Nat.le_of_ble_eq_true rfl)) ?_
  refine w_aload_n dX1_howMany_0 rfl ?_
  refine w_aload_n dX1_howMany_1 rfl ?_
  refine w_callVv dX1_howMany_2 k_X1_49 (pm_X1_weigh hg hs) rfl rfl rfl rfl (Nat.le_of_ble_eq_true rfl) (Nat.le_of_ble_eq_true rfl) (Nat.le_of_ble_eq_true rfl) (rc00 rfl (Nat.le_refl 0)) ?_
  refine w_aload_n dX1_howMany_5 rfl ?_
  refine w_get dX1_howMany_6 f_X1_15 rfl rfl ?_
  exact w_iret dX1_howMany_9 rfl rfl rfl rfl (Nat.le_refl 0)

set_option maxRecDepth 100000 in
set_option maxHeartbeats 4000000 in
theorem pm_X1_lawAt {l : Launch} {D : va_G} {N T : WS} {im : Nat → Option Nat} {ps mo op : Nat → Int32} {pn ta tb tw tp tn ka kf ks kc tot : Int32} {t : PH} {g : Nat} (hg : g ≤ 8) (hs : wsg N = nI g) {i : Int32} : PM l D YX1_lawAt 3 [.ref 26, .ref 1, .int i] (XH N im ps pn T ta tb tw tp tn ka kf ks kc mo op tot t) 0 0 (some (.int (sLaw N g i))) (XH N im ps pn T ta tb tw tp tn ka kf ks kc mo op tot t) := by
  refine pm_of2 (n0 := (t.length + 28)) kb_YX1_lawAt rfl [some (.ref 26), some (.ref 1), some (.int i), none, none, none, none] (fun _ => rfl) (fun _ => (Nat.le_of_ble_eq_true rfl)) ?_
  have loop : 0 ≤ i → ∀ (k j : Nat), j + k = 256 → ∀ (a : Int32) (o1 o2 : Option Value), laGo N g i k j a = sLaw N g i → Wp l D YX1_lawAt (pRm 3 0 0) (t.length + 28) (fun _ _ _ => True) (mE D (t.length + 28) 0 0 (some (.int (sLaw N g i))) (XH N im ps pn T ta tb tw tp tn ka kf ks kc mo op tot t)) 12 [some (.ref 26), some (.ref 1), some (.int i), some (.int a), some (.int (nI j)), o1, o2] [] (XH N im ps pn T ta tb tw tp tn ka kf ks kc mo op tot t) 0 := by
    intro hi0 k
    induction k with
    | zero =>
      intro j hj a o1 o2 hr
      have hj : j = 256 := by omega
      subst hj
      refine w_iload dX1_lawAt_12 rfl ?_
      refine w_sipush (v := 255) dX1_lawAt_14 (by decide) ?_
      refine w_icmp_gt_t (tgt := 77) dX1_lawAt_17 (by decide) (nI_lt (a := 255) (by omega) (by decide)) ?_
      refine w_bipush (v := (-6)) dX1_lawAt_77 (by decide) ?_
      exact w_iret dX1_lawAt_79 rfl (by rw [← hr]; rfl) rfl rfl (Nat.le_refl 0)
    | succ k ih =>
      intro j hj a o1 o2 hr
      rw [laGo] at hr
      refine w_iload dX1_lawAt_12 rfl ?_
      refine w_sipush (v := 255) dX1_lawAt_14 (by decide) ?_
      refine w_icmp_gt_f dX1_lawAt_17 ⟨77, by decide⟩ (nI_nlt (a := 255) (by omega) (by decide)) ?_
      refine w_aload_n dX1_lawAt_20 rfl ?_
      refine w_iload dX1_lawAt_21 rfl ?_
      refine w_callSr dX1_lawAt_23 k_X1_53 (pm_X1_leastHits hg hs) rfl rfl (Nat.le_of_ble_eq_true rfl) (Nat.le_of_ble_eq_true rfl) (Nat.le_of_ble_eq_true rfl) (rc00 rfl (Nat.le_refl 0)) ?_
      refine w_istore_5 dX1_lawAt_26 (Nat.le_of_ble_eq_true rfl) rfl ?_
      refine w_iconst (v := 0) dX1_lawAt_28 (by decide) ?_
      refine w_aload_n dX1_lawAt_29 rfl ?_
      refine w_iload dX1_lawAt_30 rfl ?_
      refine w_callSr dX1_lawAt_32 k_X1_57 (pm_X1_mostHits hg hs) rfl rfl (Nat.le_of_ble_eq_true rfl) (Nat.le_of_ble_eq_true rfl) (Nat.le_of_ble_eq_true rfl) (rc00 rfl (Nat.le_refl 0)) ?_
      refine w_iload dX1_lawAt_35 rfl ?_
      refine w_isub dX1_lawAt_37 ?_
      refine w_iconst (v := 1) dX1_lawAt_38 (by decide) ?_
      refine w_iadd dX1_lawAt_39 ?_
      refine w_mmax dX1_lawAt_40 m_X1_40 (Nat.le_of_ble_eq_true rfl) (Nat.le_of_ble_eq_true rfl) (Nat.le_of_ble_eq_true rfl) (rc01 rfl (Nat.le_refl 0)) ?_
      refine w_istore_6 dX1_lawAt_43 (Nat.le_of_ble_eq_true rfl) rfl ?_
      refine w_leq (L2 := [some (.ref 26), some (.ref 1), some (.int i), some (.int a), some (.int (nI j)), some (.int (lH N g (nI j))), some (.int (lFit N g (nI j)))]) rfl ?_
      refine w_iload_n dX1_lawAt_45 rfl ?_
      refine w_iload_n dX1_lawAt_46 rfl ?_
      refine w_isub dX1_lawAt_47 ?_
      refine w_iload dX1_lawAt_48 rfl ?_
      refine w_icmp_ge (tgt := 66) dX1_lawAt_50 (by decide) (fun c_50 => ?_) (fun c_50 => ?_)
      · skip
        refine w_iload_n dX1_lawAt_66 rfl ?_
        refine w_iload dX1_lawAt_67 rfl ?_
        refine w_iadd dX1_lawAt_69 ?_
        refine w_istore_3 dX1_lawAt_70 (Nat.le_of_ble_eq_true rfl) rfl ?_
        refine w_iinc_4 (v := 1) dX1_lawAt_71 (by decide) (Nat.le_of_ble_eq_true rfl) rfl ?_
        refine w_goto (tgt := 12) dX1_lawAt_74 (by decide) ?_
        rw [if_pos c_50] at hr
        exact w_loc_4 (nI_1 j) (ih (j + 1) (by omega) _ _ _ hr)
      · skip
        refine w_bipush (v := 10) dX1_lawAt_53 (by decide) ?_
        refine w_iload dX1_lawAt_55 rfl ?_
        refine w_imul dX1_lawAt_57 ?_
        refine w_iload dX1_lawAt_58 rfl ?_
        refine w_iadd dX1_lawAt_60 ?_
        refine w_iload_n dX1_lawAt_61 rfl ?_
        refine w_iadd dX1_lawAt_62 ?_
        refine w_iload_n dX1_lawAt_63 rfl ?_
        refine w_isub dX1_lawAt_64 ?_
        exact w_iret dX1_lawAt_65 rfl (by rw [if_neg c_50] at hr; exact hr) rfl rfl (Nat.le_refl 0)
  refine w_iload_n dX1_lawAt_0 rfl ?_
  refine w_if_ge (tgt := 7) dX1_lawAt_1 (by decide) (fun c_1 => ?_) (fun c_1 => ?_)
  · skip
    refine w_iconst (v := 0) dX1_lawAt_7 (by decide) ?_
    refine w_istore_3 dX1_lawAt_8 (Nat.le_of_ble_eq_true rfl) rfl ?_
    refine w_iconst (v := 1) dX1_lawAt_9 (by decide) ?_
    refine w_istore_4 dX1_lawAt_10 (Nat.le_of_ble_eq_true rfl) rfl ?_
    exact loop c_1 255 1 rfl _ _ _ (by rw [sLaw, if_pos c_1])
  · skip
    refine w_bipush (v := (-6)) dX1_lawAt_4 (by decide) ?_
    exact w_iret dX1_lawAt_6 rfl (by rw [sLaw, if_neg c_1]) rfl rfl (Nat.le_refl 0)

set_option maxRecDepth 100000 in
set_option maxHeartbeats 4000000 in
theorem pm_X1_mostLeft {l : Launch} {D : va_G} {N T : WS} {im : Nat → Option Nat} {ps mo op : Nat → Int32} {pn ta tb tw tp tn ka kf ks kc tot : Int32} {t : PH} {s : Int32} : PM l D YX1_mostLeft 2 [.ref 26, .int s] (XH N im ps pn T ta tb tw tp tn ka kf ks kc mo op tot t) 0 0 (some (.int (sMl op tot s))) (XH N im ps pn T ta tb tw tp tn ka kf ks kc mo op tot t) := by
  refine pm_of2 (n0 := (t.length + 28)) kb_YX1_mostLeft rfl [some (.ref 26), some (.int s)] (fun _ => rfl) (fun _ => (Nat.le_of_ble_eq_true rfl)) ?_
  refine w_iload_n dX1_mostLeft_0 rfl ?_
  refine w_callSr dX1_mostLeft_1 k_X1_67 (pm_X6_isSoul) rfl rfl (Nat.le_of_ble_eq_true rfl) (Nat.le_of_ble_eq_true rfl) (Nat.le_of_ble_eq_true rfl) (rc00 rfl (Nat.le_refl 0)) ?_
  refine w_ztif_eq (a := ?a4_1) (b := ?b4_1) (pJ := 32) (tgt := 30) dX1_mostLeft_4 (by decide) (fun c_4 k => ?hA4_1) (fun c_4 k => ?hB4_1) ?hk4_1
  case hA4_1 =>
    refine w_bipush (v := (-6)) dX1_mostLeft_30 (by decide) ?_
    exact k
  case hB4_1 =>
    refine w_aload_n dX1_mostLeft_7 rfl ?_
    refine w_get dX1_mostLeft_8 f_X1_9 rfl rfl ?_
    refine w_iload_n dX1_mostLeft_11 rfl ?_
    refine w_iald dX1_mostLeft_12 rfl (vin_soul c_4) ?_
    refine w_aload_n dX1_mostLeft_13 rfl ?_
    refine w_get dX1_mostLeft_14 f_X1_15 rfl rfl ?_
    refine w_aload_n dX1_mostLeft_17 rfl ?_
    refine w_get dX1_mostLeft_18 f_X1_9 rfl rfl ?_
    refine w_iload_n dX1_mostLeft_21 rfl ?_
    refine w_iald dX1_mostLeft_22 rfl (vin_soul c_4) ?_
    refine w_isub dX1_mostLeft_23 ?_
    refine w_mmax dX1_mostLeft_24 m_X1_40 (Nat.le_of_ble_eq_true rfl) (Nat.le_of_ble_eq_true rfl) (Nat.le_of_ble_eq_true rfl) (rc01 rfl (Nat.le_refl 0)) ?_
    refine w_goto (tgt := 32) dX1_mostLeft_27 (by decide) ?_
    exact k
  exact w_iret dX1_mostLeft_32 rfl (by rw [sMl, cond_eq_ite]; rfl) rfl rfl (Nat.le_refl 0)

set_option maxRecDepth 100000 in
set_option maxHeartbeats 4000000 in
theorem pm_X1_soulToTry {l : Launch} {D : va_G} {N T : WS} {im : Nat → Option Nat} {ps mo op : Nat → Int32} {pn ta tb tw tp tn ka kf ks kc tot : Int32} {t : PH}  : PM l D YX1_soulToTry 3 [.ref 26, .ref 1] (XH N im ps pn T ta tb tw tp tn ka kf ks kc mo op tot t) 0 0 (some (.int (sTt N op tot))) (XH N im ps pn T ta tb tw tp tn ka kf ks kc mo op tot t) := by
  refine pm_of2 (n0 := (t.length + 28)) kb_YX1_soulToTry rfl [some (.ref 26), some (.ref 1), none, none] (fun _ => rfl) (fun _ => (Nat.le_of_ble_eq_true rfl)) ?_
  have loop : ∀ (k i : Nat), i + k = 8 → ¬ tot ≤ 0 → Wp l D YX1_soulToTry (pRm 3 0 0) (t.length + 28) (fun _ _ _ => True) (mE D (t.length + 28) 0 0 (some (.int (sTt N op tot))) (XH N im ps pn T ta tb tw tp tn ka kf ks kc mo op tot t)) 5 [some (.ref 26), some (.ref 1), some (.int (iter (fTt N op tot) i (-6))), some (.int (nI i))] [] (XH N im ps pn T ta tb tw tp tn ka kf ks kc mo op tot t) 0 := by
    intro k
    induction k with
    | zero =>
      intro i hi h0
      have hi : i = 8 := by omega
      subst hi
      refine w_iload_n dX1_soulToTry_5 rfl ?_
      refine w_bipush (v := 8) dX1_soulToTry_6 (by decide) ?_
      refine w_icmp_ge_t (tgt := 53) dX1_soulToTry_8 (by decide) (Int32.le_refl _) ?_
      refine w_iload_n dX1_soulToTry_53 rfl ?_
      exact w_iret dX1_soulToTry_54 rfl (by rw [sTt, if_neg h0]) rfl rfl (Nat.le_refl 0)
    | succ k ih =>
      intro i hi h0
      have hB : iter (fTt N op tot) (i + 1) (-6) = fTt N op tot i (iter (fTt N op tot) i (-6)) := rfl
      generalize iter (fTt N op tot) i (-6) = best at hB ⊢
      refine w_iload_n dX1_soulToTry_5 rfl ?_
      refine w_bipush (v := 8) dX1_soulToTry_6 (by decide) ?_
      refine w_icmp_ge_f dX1_soulToTry_8 ⟨53, by decide⟩ (lp_g hi (by decide) rfl) ?_
      refine w_aload_n dX1_soulToTry_11 rfl ?_
      refine w_get dX1_soulToTry_12 f_X1_15 rfl rfl ?_
      refine w_if_le_f dX1_soulToTry_15 ⟨53, by decide⟩ h0 ?_
      refine w_aload_n dX1_soulToTry_18 rfl ?_
      refine w_iload_n dX1_soulToTry_19 rfl ?_
      refine w_callVr dX1_soulToTry_20 k_X1_71 (xN_isLiving) rfl rfl rfl rfl (Nat.le_of_ble_eq_true rfl) (Nat.le_of_ble_eq_true rfl) (Nat.le_of_ble_eq_true rfl) (rc00 rfl (Nat.le_refl 0)) ?_
      refine w_zif_eq (tgt := 47) dX1_soulToTry_23 (by decide) (fun c_23 => ?_) (fun c_23 => ?_)
      · skip
        refine w_iinc_3 (v := 1) dX1_soulToTry_47 (by decide) (Nat.le_of_ble_eq_true rfl) rfl ?_
        refine w_goto (tgt := 5) dX1_soulToTry_50 (by decide) ?_
        refine w_loc_3 (nI_1 i) (w_loc_2 ?_ (ih (i + 1) (by omega) h0))
        rw [hB, fTt]
        simp [*]
      · skip
        refine w_iload_n dX1_soulToTry_26 rfl ?_
        refine w_bipush (v := (-6)) dX1_soulToTry_27 (by decide) ?_
        refine w_icmp_eq (tgt := 45) dX1_soulToTry_29 (by decide) (fun c_29 => ?_) (fun c_29 => ?_)
        · skip
          refine w_iload_n dX1_soulToTry_45 rfl ?_
          refine w_istore_2 dX1_soulToTry_46 (Nat.le_of_ble_eq_true rfl) rfl ?_
          refine w_iinc_3 (v := 1) dX1_soulToTry_47 (by decide) (Nat.le_of_ble_eq_true rfl) rfl ?_
          refine w_goto (tgt := 5) dX1_soulToTry_50 (by decide) ?_
          refine w_loc_3 (nI_1 i) (w_loc_2 ?_ (ih (i + 1) (by omega) h0))
          rw [hB, fTt]
          simp [*]
        · skip
          refine w_aload_n dX1_soulToTry_32 rfl ?_
          refine w_iload_n dX1_soulToTry_33 rfl ?_
          refine w_callVr dX1_soulToTry_34 k_X1_74 (pm_X1_mostLeft) rfl rfl rfl rfl (Nat.le_of_ble_eq_true rfl) (Nat.le_of_ble_eq_true rfl) (Nat.le_of_ble_eq_true rfl) (rc00 rfl (Nat.le_refl 0)) ?_
          refine w_aload_n dX1_soulToTry_37 rfl ?_
          refine w_iload_n dX1_soulToTry_38 rfl ?_
          refine w_callVr dX1_soulToTry_39 k_X1_74 (pm_X1_mostLeft) rfl rfl rfl rfl (Nat.le_of_ble_eq_true rfl) (Nat.le_of_ble_eq_true rfl) (Nat.le_of_ble_eq_true rfl) (rc00 rfl (Nat.le_refl 0)) ?_
          refine w_icmp_ge (tgt := 47) dX1_soulToTry_42 (by decide) (fun c_42 => ?_) (fun c_42 => ?_)
          · skip
            refine w_iinc_3 (v := 1) dX1_soulToTry_47 (by decide) (Nat.le_of_ble_eq_true rfl) rfl ?_
            refine w_goto (tgt := 5) dX1_soulToTry_50 (by decide) ?_
            refine w_loc_3 (nI_1 i) (w_loc_2 ?_ (ih (i + 1) (by omega) h0))
            rw [hB, fTt]
            simp [*]
          · skip
            refine w_iload_n dX1_soulToTry_45 rfl ?_
            refine w_istore_2 dX1_soulToTry_46 (Nat.le_of_ble_eq_true rfl) rfl ?_
            refine w_iinc_3 (v := 1) dX1_soulToTry_47 (by decide) (Nat.le_of_ble_eq_true rfl) rfl ?_
            refine w_goto (tgt := 5) dX1_soulToTry_50 (by decide) ?_
            refine w_loc_3 (nI_1 i) (w_loc_2 ?_ (ih (i + 1) (by omega) h0))
            rw [hB, fTt]
            simp [*]
  by_cases h0 : tot ≤ 0
  · skip
    refine w_bipush (v := (-6)) dX1_soulToTry_0 (by decide) ?_
    refine w_istore_2 dX1_soulToTry_2 (Nat.le_of_ble_eq_true rfl) rfl ?_
    refine w_iconst (v := 0) dX1_soulToTry_3 (by decide) ?_
    refine w_istore_3 dX1_soulToTry_4 (Nat.le_of_ble_eq_true rfl) rfl ?_
    refine w_iload_n dX1_soulToTry_5 rfl ?_
    refine w_bipush (v := 8) dX1_soulToTry_6 (by decide) ?_
    refine w_icmp_ge_f dX1_soulToTry_8 ⟨53, by decide⟩ (by decide) ?_
    refine w_aload_n dX1_soulToTry_11 rfl ?_
    refine w_get dX1_soulToTry_12 f_X1_15 rfl rfl ?_
    refine w_if_le_t (tgt := 53) dX1_soulToTry_15 (by decide) h0 ?_
    refine w_iload_n dX1_soulToTry_53 rfl ?_
    exact w_iret dX1_soulToTry_54 rfl (by rw [sTt, if_pos h0]) rfl rfl (Nat.le_refl 0)
  refine w_bipush (v := (-6)) dX1_soulToTry_0 (by decide) ?_
  refine w_istore_2 dX1_soulToTry_2 (Nat.le_of_ble_eq_true rfl) rfl ?_
  refine w_iconst (v := 0) dX1_soulToTry_3 (by decide) ?_
  refine w_istore_3 dX1_soulToTry_4 (Nat.le_of_ble_eq_true rfl) rfl ?_
  exact loop 8 0 rfl h0

