def ctP (T : WS) (ka kf ks tp : Int32) : Int32 := if ka = 3 then (if sLets T ks kf then tp + 1 else tp) else tp
def ctN (T : WS) (ka kf ks ta tn : Int32) : Int32 := if ka = 3 then (if sLets T ks kf then tn else if tn = -6 then ta else tn) else tn
abbrev FR : Type := WS × Int32 × Int32 × Int32 × Int32 × Int32 × Int32 × Int32 × Int32 × Int32
def XF (N : WS) (im : Nat → Option Nat) (ps : Nat → Int32) (pn : Int32) (q : FR) (mo op : Nat → Int32) (tot : Int32) (t : PH) : PH := XH N im ps pn q.1 q.2.1 q.2.2.1 q.2.2.2.1 q.2.2.2.2.1 q.2.2.2.2.2.1 q.2.2.2.2.2.2.1 q.2.2.2.2.2.2.2.1 q.2.2.2.2.2.2.2.2.1 q.2.2.2.2.2.2.2.2.2 mo op tot t
def fpGo (ps : Nat → Int32) (pn : Int32) : Nat → Int32 → WS → Int32 → Int32 → Int32 → Int32 → Int32 → Int32 → Int32 → FR
  | 0, _, T, ta, tp, tn, ka, kf, ks, kc => (T, ta, -6, -6, tp, tn, ka, kf, ks, kc)
  | k + 1, p, T, ta, tp, tn, ka, kf, ks, kc =>
    if pn ≤ p then (T, ta, -6, -6, tp, tn, ka, kf, ks, kc) else
    if sHind T (rdA ps pn p) (rdF ps pn p kf) (rdS ps pn p ks) (rdC ps pn p kc) = 0 then
      fpGo ps pn k (p + rdL ps pn p) (sPerf T (rdA ps pn p) (rdF ps pn p kf) (rdS ps pn p ks) (rdC ps pn p kc)) (ta + 1) (ctP T (rdA ps pn p) (rdF ps pn p kf) (rdS ps pn p ks) tp) (ctN T (rdA ps pn p) (rdF ps pn p kf) (rdS ps pn p ks) ta tn) (rdA ps pn p) (rdF ps pn p kf) (rdS ps pn p ks) (rdC ps pn p kc)
    else (T, ta, ta, sHind T (rdA ps pn p) (rdF ps pn p kf) (rdS ps pn p ks) (rdC ps pn p kc), tp, tn, rdA ps pn p, rdF ps pn p kf, rdS ps pn p ks, rdC ps pn p kc)
def dwX (x : Int32) : Int32 := jrem (75 * x + 74) 65537
def dwT (T : WS) (x kc : Int32) : WS := if sHind T (dwA x) (dwF x) (dwS x) (dwC x kc) = 0 then sPerf T (dwA x) (dwF x) (dwS x) (dwC x kc) else T
def dwGo : Nat → Int32 → WS → Int32 → Int32 → Int32 → Int32 → WS × Int32 × Int32 × Int32 × Int32
  | 0, _, T, ka, kf, ks, kc => (T, ka, kf, ks, kc)
  | k + 1, x, T, _, _, _, kc => dwGo k (dwX x) (dwT T (dwX x) kc) (dwA (dwX x)) (dwF (dwX x)) (dwS (dwX x)) (dwC (dwX x) kc)
theorem rdA_ok (ps : Nat → Int32) (pn p : Int32) : rdA ps pn p = 0 ∨ rdA ps pn p = 1 ∨ rdA ps pn p = 2 ∨ rdA ps pn p = 3 := by
  unfold rdA; split
  · exact Or.inl rfl
  · split
    · exact Or.inr (Or.inl rfl)
    · split
      · exact Or.inr (Or.inr (Or.inl rfl))
      · exact Or.inr (Or.inr (Or.inr rfl))
theorem dwA_ok (x : Int32) : dwA x = 0 ∨ dwA x = 1 ∨ dwA x = 2 ∨ dwA x = 3 := by
  unfold dwA; split
  · exact Or.inl rfl
  · split
    · exact Or.inr (Or.inl rfl)
    · split
      · exact Or.inr (Or.inr (Or.inr rfl))
      · exact Or.inr (Or.inr (Or.inl rfl))
theorem clamp_inj {a b : Int32} {n : Nat} (ha : vp_in a n) (hb : vp_in b n) (hn : n < 2 ^ 31) (h : a.toNatClampNeg = b.toNatClampNeg) : a = b := by
  obtain ⟨i, hi, rfl⟩ := vp_in_of ha hn
  obtain ⟨j, hj, rfl⟩ := vp_in_of hb hn
  rw [nI_clamp (by omega), nI_clamp (by omega)] at h
  rw [h]
theorem hind_1 {T : WS} {k f s c : Int32} (h : sHind T k f s c = 0) (hk : k = 1) : vp_in f 8 ∧ vp_in s 8 ∧ ¬ f.toNatClampNeg = s.toNatClampNeg := by
  subst hk
  unfold sHind at h
  rw [if_neg (by decide)] at h
  by_cases h1 : sLiv T f = false
  · rw [if_pos h1] at h; exact absurd h (by decide)
  · rw [if_neg h1, if_neg (by decide)] at h
    by_cases h2 : f = s
    · rw [if_pos h2] at h; exact absurd h (by decide)
    · rw [if_neg h2, if_pos rfl] at h
      by_cases h3 : sSoul s = false ∨ sLiv T s = true
      · rw [if_pos h3] at h; exact absurd h (by decide)
      · have hs : sSoul s = true := by
          cases hq : sSoul s with
          | true => rfl
          | false => exact absurd (Or.inl hq) h3
        have hf : vp_in f 8 := vin_liv (by cases hq : sLiv T f with
          | true => rfl
          | false => exact absurd hq h1)
        exact ⟨hf, vin_soul hs, fun e => h2 (clamp_inj hf (vin_soul hs) (by decide) e)⟩
theorem hind_2 {T : WS} {k f s c : Int32} (h : sHind T k f s c = 0) (hk : k = 2) : vp_in f 8 ∧ vp_in s 8 := by
  subst hk
  unfold sHind at h
  rw [if_neg (by decide)] at h
  by_cases h1 : sLiv T f = false
  · rw [if_pos h1] at h; exact absurd h (by decide)
  · rw [if_neg h1, if_neg (by decide)] at h
    by_cases h2 : f = s
    · rw [if_pos h2] at h; exact absurd h (by decide)
    · rw [if_neg h2, if_neg (by decide)] at h
      by_cases h3 : sLiv T s = false
      · rw [if_pos h3] at h; exact absurd h (by decide)
      · exact ⟨vin_liv (by cases hq : sLiv T f with
          | true => rfl
          | false => exact absurd hq h1), vin_liv (by cases hq : sLiv T s with
          | true => rfl
          | false => exact absurd hq h3)⟩
set_option maxRecDepth 100000 in
set_option maxHeartbeats 4000000 in
theorem pm_X4_countTry {l : Launch} {D : va_G} {N T : WS} {im : Nat → Option Nat} {ps mo op : Nat → Int32} {pn ta tb tw tp tn ka kf ks kc tot : Int32} {t : PH}  : PM l D YX4_countTry 4 [.ref 13] (XH N im ps pn T ta tb tw tp tn ka kf ks kc mo op tot t) 0 0 none (XH N im ps pn T ta tb tw (ctP T ka kf ks tp) (ctN T ka kf ks ta tn) ka kf ks kc mo op tot t) := by
  refine pm_of2 (n0 := (t.length + 28)) kb_YX4_countTry rfl [some (.ref 13)] (fun _ => rfl) (fun _ => (Nat.le_of_ble_eq_true rfl)) ?_
  refine w_aload_n dX4_countTry_0 rfl ?_
  refine w_get dX4_countTry_1 f_X4_21 rfl rfl ?_
  refine w_get dX4_countTry_4 f_X4_65 rfl rfl ?_
  refine w_iconst (v := 3) dX4_countTry_7 (by decide) ?_
  refine w_icmp_eq (tgt := 12) dX4_countTry_8 (by decide) (fun c_8 => ?_) (fun c_8 => ?_)
  · skip
    refine w_aload_n dX4_countTry_12 rfl ?_
    refine w_get dX4_countTry_13 f_X4_12 rfl rfl ?_
    refine w_aload_n dX4_countTry_16 rfl ?_
    refine w_get dX4_countTry_17 f_X4_21 rfl rfl ?_
    refine w_get dX4_countTry_20 f_X4_68 rfl rfl ?_
    refine w_aload_n dX4_countTry_23 rfl ?_
    refine w_get dX4_countTry_24 f_X4_21 rfl rfl ?_
    refine w_get dX4_countTry_27 f_X4_71 rfl rfl ?_
    refine w_callVr dX4_countTry_30 k_X4_74 (xT_letsIn) rfl rfl rfl rfl (Nat.le_of_ble_eq_true rfl) (Nat.le_of_ble_eq_true rfl) (Nat.le_of_ble_eq_true rfl) (rc00 rfl (Nat.le_refl 0)) ?_
    refine w_zif_eq (tgt := 49) dX4_countTry_33 (by decide) (fun c_33 => ?_) (fun c_33 => ?_)
    · skip
      refine w_aload_n dX4_countTry_49 rfl ?_
      refine w_get dX4_countTry_50 f_X4_38 rfl rfl ?_
      refine w_bipush (v := (-6)) dX4_countTry_53 (by decide) ?_
      refine w_icmp_ne (tgt := 66) dX4_countTry_55 (by decide) (fun c_55 => ?_) (fun c_55 => ?_)
      · skip
        exact w_vret dX4_countTry_66 rfl (by simp [ctP, ctN, *]) rfl (Nat.le_refl 0)
      · skip
        refine w_aload_n dX4_countTry_58 rfl ?_
        refine w_aload_n dX4_countTry_59 rfl ?_
        refine w_get dX4_countTry_60 f_X4_25 rfl rfl ?_
        refine x_pR6 dX4_countTry_63 f_X4_38 ?_
        exact w_vret dX4_countTry_66 rfl (by simp [ctP, ctN, *]) rfl (Nat.le_refl 0)
    · skip
      refine w_aload_n dX4_countTry_36 rfl ?_
      refine w_dup dX4_countTry_37 rfl ?_
      refine w_get dX4_countTry_38 f_X4_35 rfl rfl ?_
      refine w_iconst (v := 1) dX4_countTry_41 (by decide) ?_
      refine w_iadd dX4_countTry_42 ?_
      refine x_pR5 dX4_countTry_43 f_X4_35 ?_
      refine w_goto (tgt := 66) dX4_countTry_46 (by decide) ?_
      exact w_vret dX4_countTry_66 rfl (by simp [ctP, ctN, *]) rfl (Nat.le_refl 0)
  · skip
    exact w_vret dX4_countTry_11 rfl (by simp [ctP, ctN, *]) rfl (Nat.le_refl 0)

set_option maxRecDepth 100000 in
set_option maxHeartbeats 4000000 in
theorem pm_X4_followPad {l : Launch} {D : va_G} {N T : WS} {im : Nat → Option Nat} {ps mo op : Nat → Int32} {pn ta tb tw tp tn ka kf ks kc tot : Int32} {t : PH} (hp : pn ≤ 60) : PM l D YX4_followPad 6 [.ref 13, .ref 1, .ref 11] (XH N im ps pn T ta tb tw tp tn ka kf ks kc mo op tot t) 0 0 none (XF N im ps pn (fpGo ps pn 60 0 (sCpy T N) 0 0 (-6) ka kf ks kc) mo op tot t) := by
  refine pm_of2 (n0 := (t.length + 28)) kb_YX4_followPad rfl [some (.ref 13), some (.ref 1), some (.ref 11), none, none, none] (fun _ => rfl) (fun _ => (Nat.le_of_ble_eq_true rfl)) ?_
  have loop : ∀ (k i : Nat), i + k = 60 → ∀ (w : Option Value) (p : Int32) (S : WS) (a P Q ja jf js jc : Int32), fpGo ps pn k p S a P Q ja jf js jc = (fpGo ps pn 60 0 (sCpy T N) 0 0 (-6) ka kf ks kc) → Wp l D YX4_followPad (pRm 6 0 0) (t.length + 28) (fun _ _ _ => True) (mE D (t.length + 28) 0 0 none (XF N im ps pn (fpGo ps pn 60 0 (sCpy T N) 0 0 (-6) ka kf ks kc) mo op tot t)) 41 [some (.ref 13), some (.ref 1), some (.ref 11), some (.int p), some (.int (nI i)), w] [] (XH N im ps pn S a (-6) (-6) P Q ja jf js jc mo op tot t) 0 := by
    intro k
    induction k with
    | zero =>
      intro i hi w p S a P Q ja jf js jc hr
      refine w_iload dX4_followPad_41 rfl ?_
      refine w_bipush (v := 60) dX4_followPad_43 (by decide) ?_
      refine w_icmp_ge_t (tgt := 132) dX4_followPad_45 (by decide) (lp_x hi (by decide) rfl) ?_
      exact w_vret dX4_followPad_132 rfl (by rw [← hr]; rfl) rfl (Nat.le_refl 0)
    | succ k ih =>
      intro i hi w p S a P Q ja jf js jc hr
      rw [fpGo] at hr
      refine w_iload dX4_followPad_41 rfl ?_
      refine w_bipush (v := 60) dX4_followPad_43 (by decide) ?_
      refine w_icmp_ge_f dX4_followPad_45 ⟨132, by decide⟩ (lp_g hi (by decide) rfl) ?_
      refine w_iload_n dX4_followPad_48 rfl ?_
      refine w_aload_n dX4_followPad_49 rfl ?_
      refine w_get dX4_followPad_50 f_X4_45 rfl rfl ?_
      refine w_icmp_ge (tgt := 132) dX4_followPad_53 (by decide) (fun c_53 => ?_) (fun c_53 => ?_)
      · skip
        exact w_vret dX4_followPad_132 rfl (by first | (rw [← hr, if_pos c_53]; rfl) | (rw [← hr, if_neg c_53, if_neg c_83]; rfl)) rfl (Nat.le_refl 0)
      · skip
        refine w_iload_n dX4_followPad_56 rfl ?_
        refine w_aload_n dX4_followPad_57 rfl ?_
        refine w_get dX4_followPad_58 f_X4_21 rfl rfl ?_
        refine w_aload_n dX4_followPad_61 rfl ?_
        refine w_iload_n dX4_followPad_62 rfl ?_
        refine w_callVr dX4_followPad_63 k_X4_50 (pm_X0_readFrom hp) rfl rfl rfl rfl (Nat.le_of_ble_eq_true rfl) (Nat.le_of_ble_eq_true rfl) (Nat.le_of_ble_eq_true rfl) (rc00 rfl (Nat.le_refl 0)) ?_
        refine w_iadd dX4_followPad_66 ?_
        refine w_istore_3 dX4_followPad_67 (Nat.le_of_ble_eq_true rfl) rfl ?_
        refine w_aload_n dX4_followPad_68 rfl ?_
        refine w_get dX4_followPad_69 f_X4_12 rfl rfl ?_
        refine w_aload_n dX4_followPad_72 rfl ?_
        refine w_get dX4_followPad_73 f_X4_21 rfl rfl ?_
        refine w_callVr dX4_followPad_76 k_X4_54 (xT_hindrance) rfl rfl rfl rfl (Nat.le_of_ble_eq_true rfl) (Nat.le_of_ble_eq_true rfl) (Nat.le_of_ble_eq_true rfl) (rc00 rfl (Nat.le_refl 0)) ?_
        refine w_istore_5 dX4_followPad_79 (Nat.le_of_ble_eq_true rfl) rfl ?_
        refine w_iload dX4_followPad_81 rfl ?_
        refine w_if_eq (tgt := 101) dX4_followPad_83 (by decide) (fun c_83 => ?_) (fun c_83 => ?_)
        · skip
          refine w_aload_n dX4_followPad_101 rfl ?_
          refine w_callVv dX4_followPad_102 k_X4_58 (pm_X4_countTry) rfl rfl rfl rfl (Nat.le_of_ble_eq_true rfl) (Nat.le_of_ble_eq_true rfl) (Nat.le_of_ble_eq_true rfl) (rc00 rfl (Nat.le_refl 0)) ?_
          refine w_aload_n dX4_followPad_105 rfl ?_
          refine w_get dX4_followPad_106 f_X4_12 rfl rfl ?_
          refine w_aload_n dX4_followPad_109 rfl ?_
          refine w_get dX4_followPad_110 f_X4_21 rfl rfl ?_
          refine w_callVv dX4_followPad_113 k_X4_61 (xT_perform (rdA_ok _ _ _) (fun e => hind_1 c_83 e) (fun e => hind_2 c_83 e)) rfl rfl rfl rfl (Nat.le_of_ble_eq_true rfl) (Nat.le_of_ble_eq_true rfl) (Nat.le_of_ble_eq_true rfl) (rc00 rfl (Nat.le_refl 0)) ?_
          refine w_aload_n dX4_followPad_116 rfl ?_
          refine w_dup dX4_followPad_117 rfl ?_
          refine w_get dX4_followPad_118 f_X4_25 rfl rfl ?_
          refine w_iconst (v := 1) dX4_followPad_121 (by decide) ?_
          refine w_iadd dX4_followPad_122 ?_
          refine x_pR2 dX4_followPad_123 f_X4_25 ?_
          refine w_iinc_4 (v := 1) dX4_followPad_126 (by decide) (Nat.le_of_ble_eq_true rfl) rfl ?_
          refine w_goto (tgt := 41) dX4_followPad_129 (by decide) ?_
          rw [if_neg c_53, if_pos c_83] at hr
          exact w_loc_4 (nI_1 i) (ih (i + 1) (by omega) _ _ _ _ _ _ _ _ _ _ hr)
        · skip
          refine w_aload_n dX4_followPad_86 rfl ?_
          refine w_aload_n dX4_followPad_87 rfl ?_
          refine w_get dX4_followPad_88 f_X4_25 rfl rfl ?_
          refine x_pR3 dX4_followPad_91 f_X4_29 ?_
          refine w_aload_n dX4_followPad_94 rfl ?_
          refine w_iload dX4_followPad_95 rfl ?_
          refine x_pR4 dX4_followPad_97 f_X4_32 ?_
          exact w_vret dX4_followPad_100 rfl (by first | (rw [← hr, if_pos c_53]; rfl) | (rw [← hr, if_neg c_53, if_neg c_83]; rfl)) rfl (Nat.le_refl 0)
  refine w_aload_n dX4_followPad_0 rfl ?_
  refine w_get dX4_followPad_1 f_X4_12 rfl rfl ?_
  refine w_aload_n dX4_followPad_4 rfl ?_
  refine w_callVv dX4_followPad_5 k_X4_41 (xT_copyFrom) rfl rfl rfl rfl (Nat.le_of_ble_eq_true rfl) (Nat.le_of_ble_eq_true rfl) (Nat.le_of_ble_eq_true rfl) (rc00 rfl (Nat.le_refl 0)) ?_
  refine w_aload_n dX4_followPad_8 rfl ?_
  refine w_iconst (v := 0) dX4_followPad_9 (by decide) ?_
  refine x_pR2 dX4_followPad_10 f_X4_25 ?_
  refine w_aload_n dX4_followPad_13 rfl ?_
  refine w_bipush (v := (-6)) dX4_followPad_14 (by decide) ?_
  refine x_pR3 dX4_followPad_16 f_X4_29 ?_
  refine w_aload_n dX4_followPad_19 rfl ?_
  refine w_bipush (v := (-6)) dX4_followPad_20 (by decide) ?_
  refine x_pR4 dX4_followPad_22 f_X4_32 ?_
  refine w_aload_n dX4_followPad_25 rfl ?_
  refine w_iconst (v := 0) dX4_followPad_26 (by decide) ?_
  refine x_pR5 dX4_followPad_27 f_X4_35 ?_
  refine w_aload_n dX4_followPad_30 rfl ?_
  refine w_bipush (v := (-6)) dX4_followPad_31 (by decide) ?_
  refine x_pR6 dX4_followPad_33 f_X4_38 ?_
  refine w_iconst (v := 0) dX4_followPad_36 (by decide) ?_
  refine w_istore_3 dX4_followPad_37 (Nat.le_of_ble_eq_true rfl) rfl ?_
  refine w_iconst (v := 0) dX4_followPad_38 (by decide) ?_
  refine w_istore_4 dX4_followPad_39 (Nat.le_of_ble_eq_true rfl) rfl ?_
  exact loop 60 0 rfl _ _ _ _ _ _ _ _ _ _ rfl

set_option maxRecDepth 100000 in
set_option maxHeartbeats 4000000 in
theorem pm_X4_followDraws {l : Launch} {D : va_G} {N T : WS} {im : Nat → Option Nat} {ps mo op : Nat → Int32} {pn ta tb tw tp tn ka kf ks kc tot : Int32} {t : PH} {x : Int32} {m : Nat} (hm : m ≤ 99) : PM l D YX4_followDraws 6 [.ref 13, .ref 1, .int x, .int (nI m)] (XH N im ps pn T ta tb tw tp tn ka kf ks kc mo op tot t) 0 0 none (XH N im ps pn (dwGo m x (sCpy T N) ka kf ks kc).1 ta tb tw tp tn (dwGo m x (sCpy T N) ka kf ks kc).2.1 (dwGo m x (sCpy T N) ka kf ks kc).2.2.1 (dwGo m x (sCpy T N) ka kf ks kc).2.2.2.1 (dwGo m x (sCpy T N) ka kf ks kc).2.2.2.2 mo op tot t) := by
  refine pm_of2 (n0 := (t.length + 28)) kb_YX4_followDraws rfl [some (.ref 13), some (.ref 1), some (.int x), some (.int (nI m)), none, none] (fun _ => rfl) (fun _ => (Nat.le_of_ble_eq_true rfl)) ?_
  have loop : ∀ (k i : Nat), i + k = m → ∀ (y : Int32) (S : WS) (ja jf js jc : Int32), dwGo k y S ja jf js jc = (dwGo m x (sCpy T N) ka kf ks kc) → Wp l D YX4_followDraws (pRm 6 0 0) (t.length + 28) (fun _ _ _ => True) (mE D (t.length + 28) 0 0 none (XH N im ps pn (dwGo m x (sCpy T N) ka kf ks kc).1 ta tb tw tp tn (dwGo m x (sCpy T N) ka kf ks kc).2.1 (dwGo m x (sCpy T N) ka kf ks kc).2.2.1 (dwGo m x (sCpy T N) ka kf ks kc).2.2.2.1 (dwGo m x (sCpy T N) ka kf ks kc).2.2.2.2 mo op tot t)) 14 [some (.ref 13), some (.ref 1), some (.int x), some (.int (nI m)), some (.int y), some (.int (nI i))] [] (XH N im ps pn S ta tb tw tp tn ja jf js jc mo op tot t) 0 := by
    intro k
    induction k with
    | zero =>
      intro i hi y S ja jf js jc hr
      have hi : i = m := by omega
      subst hi
      refine w_iload dX4_followDraws_14 rfl ?_
      refine w_iload_n dX4_followDraws_16 rfl ?_
      refine w_icmp_ge_t (tgt := 73) dX4_followDraws_17 (by decide) (Int32.le_refl _) ?_
      exact w_vret dX4_followDraws_73 rfl (by rw [← hr]; rfl) rfl (Nat.le_refl 0)
    | succ k ih =>
      intro i hi y S ja jf js jc hr
      rw [dwGo] at hr
      refine w_iload dX4_followDraws_14 rfl ?_
      refine w_iload_n dX4_followDraws_16 rfl ?_
      refine w_icmp_ge_f dX4_followDraws_17 ⟨73, by decide⟩ (nI_ge (by omega) (by omega)) ?_
      refine w_bipush (v := 75) dX4_followDraws_20 (by decide) ?_
      refine w_iload dX4_followDraws_22 rfl ?_
      refine w_imul dX4_followDraws_24 ?_
      refine w_bipush (v := 74) dX4_followDraws_25 (by decide) ?_
      refine w_iadd dX4_followDraws_27 ?_
      refine w_ldc dX4_followDraws_28 q_X4_78 ?_
      refine w_irem dX4_followDraws_30 (by decide) ?_
      refine w_istore_4 dX4_followDraws_31 (Nat.le_of_ble_eq_true rfl) rfl ?_
      refine w_leq (L2 := [some (.ref 13), some (.ref 1), some (.int x), some (.int (nI m)), some (.int (dwX y)), some (.int (nI i))]) rfl ?_
      refine w_aload_n dX4_followDraws_33 rfl ?_
      refine w_get dX4_followDraws_34 f_X4_21 rfl rfl ?_
      refine w_iload dX4_followDraws_37 rfl ?_
      refine w_callVv dX4_followDraws_39 k_X4_79 (pm_X0_drawFrom) rfl rfl rfl rfl (Nat.le_of_ble_eq_true rfl) (Nat.le_of_ble_eq_true rfl) (Nat.le_of_ble_eq_true rfl) (rc00 rfl (Nat.le_refl 0)) ?_
      refine w_aload_n dX4_followDraws_42 rfl ?_
      refine w_get dX4_followDraws_43 f_X4_12 rfl rfl ?_
      refine w_aload_n dX4_followDraws_46 rfl ?_
      refine w_get dX4_followDraws_47 f_X4_21 rfl rfl ?_
      refine w_callVr dX4_followDraws_50 k_X4_54 (xT_hindrance) rfl rfl rfl rfl (Nat.le_of_ble_eq_true rfl) (Nat.le_of_ble_eq_true rfl) (Nat.le_of_ble_eq_true rfl) (rc00 rfl (Nat.le_refl 0)) ?_
      refine w_if_ne (tgt := 67) dX4_followDraws_53 (by decide) (fun c_53 => ?_) (fun c_53 => ?_)
      · skip
        refine w_iinc_5 (v := 1) dX4_followDraws_67 (by decide) (Nat.le_of_ble_eq_true rfl) rfl ?_
        refine w_goto (tgt := 14) dX4_followDraws_70 (by decide) ?_
        rw [dwT] at hr
        first | rw [if_pos c_53] at hr | rw [if_neg c_53] at hr
        exact w_loc_5 (nI_1 i) (ih (i + 1) (by omega) _ _ _ _ _ _ hr)
      · skip
        refine w_aload_n dX4_followDraws_56 rfl ?_
        refine w_get dX4_followDraws_57 f_X4_12 rfl rfl ?_
        refine w_aload_n dX4_followDraws_60 rfl ?_
        refine w_get dX4_followDraws_61 f_X4_21 rfl rfl ?_
        refine w_callVv dX4_followDraws_64 k_X4_61 (xT_perform (dwA_ok _) (fun e => hind_1 c_53 e) (fun e => hind_2 c_53 e)) rfl rfl rfl rfl (Nat.le_of_ble_eq_true rfl) (Nat.le_of_ble_eq_true rfl) (Nat.le_of_ble_eq_true rfl) (rc00 rfl (Nat.le_refl 0)) ?_
        refine w_iinc_5 (v := 1) dX4_followDraws_67 (by decide) (Nat.le_of_ble_eq_true rfl) rfl ?_
        refine w_goto (tgt := 14) dX4_followDraws_70 (by decide) ?_
        rw [dwT] at hr
        first | rw [if_pos c_53] at hr | rw [if_neg c_53] at hr
        exact w_loc_5 (nI_1 i) (ih (i + 1) (by omega) _ _ _ _ _ _ hr)
  refine w_aload_n dX4_followDraws_0 rfl ?_
  refine w_get dX4_followDraws_1 f_X4_12 rfl rfl ?_
  refine w_aload_n dX4_followDraws_4 rfl ?_
  refine w_callVv dX4_followDraws_5 k_X4_41 (xT_copyFrom) rfl rfl rfl rfl (Nat.le_of_ble_eq_true rfl) (Nat.le_of_ble_eq_true rfl) (Nat.le_of_ble_eq_true rfl) (rc00 rfl (Nat.le_refl 0)) ?_
  refine w_iload_n dX4_followDraws_8 rfl ?_
  refine w_istore_4 dX4_followDraws_9 (Nat.le_of_ble_eq_true rfl) rfl ?_
  refine w_iconst (v := 0) dX4_followDraws_11 (by decide) ?_
  refine w_istore_5 dX4_followDraws_12 (Nat.le_of_ble_eq_true rfl) rfl ?_
  exact loop m 0 (by omega) _ _ _ _ _ _ rfl

