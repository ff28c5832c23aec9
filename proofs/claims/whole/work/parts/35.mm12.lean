def imA (M : MS) (o i : Nat) : Nat → Int32 := iter (fun j f => upd f (o + j) (mbk M j)) i (mim M)
def imB (M : MS) (o i : Nat) : Nat → Int32 := iter (fun j f => upd (upd f (o + 96 + j) (mwn M j)) (o + 102 + j) (mhi M j)) i (imA M o 96)
def imC (M : MS) (o i : Nat) : Nat → Int32 := iter (fun j f => upd f (o + 108 + j) (msi M j)) i (imB M o 6)
def imD (M : MS) (o : Nat) : Nat → Int32 := upd (imC M o 16) (o + 124) (msg M)
def mImg (M : MS) (k : Nat) : MS := tkp (tim M (imD M (130 * k))) (upd (mkp M) k 1)
def reA (M : MS) (o i : Nat) : Nat → Int32 := iter (fun j f => upd f j (mim M (o + j))) i (mbk M)
def reW (M : MS) (o i : Nat) : Nat → Int32 := iter (fun j f => upd f j (mim M (o + 96 + j))) i (mwn M)
def reH (M : MS) (o i : Nat) : Nat → Int32 := iter (fun j f => upd f j (mim M (o + 102 + j))) i (mhi M)
def reS (M : MS) (o i : Nat) : Nat → Int32 := iter (fun j f => upd f j (mim M (o + 108 + j))) i (msi M)
def mRes (M : MS) (k : Nat) : MS := tsg (tsi (thi (twn (tbk M (reA M (130 * k) 96)) (reW M (130 * k) 6)) (reH M (130 * k) 6)) (reS M (130 * k) 16)) (mim M (130 * k + 124))
theorem imA_0 (M : MS) (o : Nat) : mim M = imA M o 0 := rfl
theorem imB_0 (M : MS) (o : Nat) : imA M o 96 = imB M o 0 := iter_0 _ _
theorem imC_0 (M : MS) (o : Nat) : imB M o 6 = imC M o 0 := iter_0 _ _
theorem imA_s (M : MS) (o i : Nat) : upd (imA M o i) (o + i) (mbk M i) = imA M o (i + 1) := rfl
theorem imB_s (M : MS) (o i : Nat) : upd (upd (imB M o i) (o + 96 + i) (mwn M i)) (o + 102 + i) (mhi M i) = imB M o (i + 1) := by unfold imB; rw [iter_s]
theorem imC_s (M : MS) (o i : Nat) : upd (imC M o i) (o + 108 + i) (msi M i) = imC M o (i + 1) := by unfold imC; rw [iter_s]
set_option maxRecDepth 100000 in
set_option maxHeartbeats 1000000 in
theorem pm_X7_image_r {l : Launch} {D : va_G} {h : PH} {M : MS} (hb : 38 < h.length) {x : Int32} (hn : sIn x 0 1 = false) : PM l D YX7_image 2 [.ref 28, .int x] (mput h M) 0 0 (some (.int (-2))) (mput h M) := by
  refine pm_of2 (n0 := h.length) kb_YX7_image (mlen hb) [some (.ref 28), some (.int x), none, none] (fun _ => rfl) (fun _ => (Nat.le_of_ble_eq_true rfl)) ?_
  refine w_iload_n dX7_image_0 rfl ?_
  refine w_iconst (v := 0) dX7_image_1 (by decide) ?_
  refine w_iconst (v := 1) dX7_image_2 (by decide) ?_
  refine w_callSr dX7_image_3 k_X7_41 (pm_X7_in) rfl rfl (Nat.le_of_ble_eq_true rfl) (Nat.le_of_ble_eq_true rfl) (Nat.le_of_ble_eq_true rfl) (rc00 (mlen hb) (Nat.le_refl 0)) ?_
  refine w_zif_ne_f dX7_image_6 ⟨12, by decide⟩ hn ?_
  refine w_bipush (v := (-2)) dX7_image_9 (by decide) ?_
  exact w_iret dX7_image_11 rfl rfl rfl (mlen hb) (Nat.le_refl 0)

set_option maxRecDepth 100000 in
set_option maxHeartbeats 1000000 in
theorem pm_X7_image_a {l : Launch} {D : va_G} {h : PH} {M : MS} (hb : 38 < h.length) {k : Nat} (hk : k < 2) : PM l D YX7_image 2 [.ref 28, .int (nI k)] (mput h M) 0 0 (some (.int 1)) (mput h (mImg M k)) := by
  refine pm_of2 (n0 := h.length) kb_YX7_image (mlen hb) [some (.ref 28), some (.int (nI k)), none, none] (fun _ => rfl) (fun _ => (Nat.le_of_ble_eq_true rfl)) ?_
  have last : ∀ o3, Wp l D YX7_image (pRm 2 0 0) h.length (fun _ _ _ => True) (mE D h.length 0 0 (some (.int 1)) (mput h (mImg M k))) 125 [some (.ref 28), some (.int (nI k)), some (.int (nI (130 * k))), o3] [] (mput h (tim M (imC M (130 * k) 16))) 0 := by
    intro o3
    refine w_aload_n dX7_image_125 rfl ?_
    refine w_get dX7_image_126 f_X7_34 (mg0 hb) rfl ?_
    refine w_iload_n dX7_image_129 rfl ?_
    refine w_bipush (v := 124) dX7_image_130 (by decide) ?_
    refine w_iadd dX7_image_132 ?_
    refine w_aload_n dX7_image_133 rfl ?_
    refine w_get dX7_image_134 f_X7_129 (mg0 hb) rfl ?_
    refine w_aMn_im (k := ((130 * k) + 124)) dX7_image_137 hb (nadd rfl rfl) (by omega) ?_
    refine w_aload_n dX7_image_138 rfl ?_
    refine w_get dX7_image_139 f_X7_37 (mg0 hb) rfl ?_
    refine w_iload_n dX7_image_142 rfl ?_
    refine w_iconst (v := 1) dX7_image_143 (by decide) ?_
    refine w_aM_kp dX7_image_144 hb (vp_in_nI hk (by decide)) rfl ?_
    rw [nI_clamp (show k < 2 ^ 31 by omega)]
    refine w_iconst (v := 1) dX7_image_145 (by decide) ?_
    exact w_iret dX7_image_146 rfl rfl rfl (mlen hb) (Nat.le_refl 0)
  have l3 : ∀ (q i : Nat), i + q = 16 → Wp l D YX7_image (pRm 2 0 0) h.length (fun _ _ _ => True) (mE D h.length 0 0 (some (.int 1)) (mput h (mImg M k))) 96 [some (.ref 28), some (.int (nI k)), some (.int (nI (130 * k))), some (.int (nI i))] [] (mput h (tim M (imC M (130 * k) i))) 0 := by
    intro q
    induction q with
    | zero =>
      intro i hi
      have hi : i = 16 := by omega
      subst hi
      refine w_iload_n dX7_image_96 rfl ?_
      refine w_bipush (v := 16) dX7_image_97 (by decide) ?_
      refine w_icmp_ge_t (tgt := 125) dX7_image_99 (by decide) (Int32.le_refl _) ?_
      exact last _
    | succ q ih =>
      intro i hi
      refine w_iload_n dX7_image_96 rfl ?_
      refine w_bipush (v := 16) dX7_image_97 (by decide) ?_
      refine w_icmp_ge_f dX7_image_99 ⟨125, by decide⟩ (lp_g hi (by decide) rfl) ?_
      refine w_aload_n dX7_image_102 rfl ?_
      refine w_get dX7_image_103 f_X7_34 (mg0 hb) rfl ?_
      refine w_iload_n dX7_image_106 rfl ?_
      refine w_bipush (v := 108) dX7_image_107 (by decide) ?_
      refine w_iadd dX7_image_109 ?_
      refine w_iload_n dX7_image_110 rfl ?_
      refine w_iadd dX7_image_111 ?_
      refine w_aload_n dX7_image_112 rfl ?_
      refine w_get dX7_image_113 f_X7_22 (mg0 hb) rfl ?_
      refine w_iload_n dX7_image_116 rfl ?_
      refine w_ialdN (k := i) dX7_image_117 (mg_si hb) rfl (by omega) (kk := ?_)
      refine w_aMn_im (k := (((130 * k) + 108) + i)) dX7_image_118 hb (nadd (nadd rfl rfl) rfl) (by omega) ?_
      refine w_iinc_3 (v := 1) dX7_image_119 (by decide) (Nat.le_of_ble_eq_true rfl) rfl ?_
      refine w_goto (tgt := 96) dX7_image_122 (by decide) ?_
      exact w_heq (congrArg (fun z => mput h (tim M z)) (imC_s M (130 * k) i)) (w_loc_3 (nI_1 i) (ih (i + 1) (by omega)))
  have l2 : ∀ (q i : Nat), i + q = 6 → Wp l D YX7_image (pRm 2 0 0) h.length (fun _ _ _ => True) (mE D h.length 0 0 (some (.int 1)) (mput h (mImg M k))) 48 [some (.ref 28), some (.int (nI k)), some (.int (nI (130 * k))), some (.int (nI i))] [] (mput h (tim M (imB M (130 * k) i))) 0 := by
    intro q
    induction q with
    | zero =>
      intro i hi
      have hi : i = 6 := by omega
      subst hi
      refine w_iload_n dX7_image_48 rfl ?_
      refine w_bipush (v := 6) dX7_image_49 (by decide) ?_
      refine w_icmp_ge_t (tgt := 94) dX7_image_51 (by decide) (Int32.le_refl _) ?_
      refine w_iconst (v := 0) dX7_image_94 (by decide) ?_
      refine w_istore_3 dX7_image_95 (Nat.le_of_ble_eq_true rfl) rfl ?_
      exact w_heq (congrArg (fun z => mput h (tim M z)) (imC_0 M (130 * k))) (l3 16 0 rfl)
    | succ q ih =>
      intro i hi
      refine w_iload_n dX7_image_48 rfl ?_
      refine w_bipush (v := 6) dX7_image_49 (by decide) ?_
      refine w_icmp_ge_f dX7_image_51 ⟨94, by decide⟩ (lp_g hi (by decide) rfl) ?_
      refine w_aload_n dX7_image_54 rfl ?_
      refine w_get dX7_image_55 f_X7_34 (mg0 hb) rfl ?_
      refine w_iload_n dX7_image_58 rfl ?_
      refine w_bipush (v := 96) dX7_image_59 (by decide) ?_
      refine w_iadd dX7_image_61 ?_
      refine w_iload_n dX7_image_62 rfl ?_
      refine w_iadd dX7_image_63 ?_
      refine w_aload_n dX7_image_64 rfl ?_
      refine w_get dX7_image_65 f_X7_16 (mg0 hb) rfl ?_
      refine w_iload_n dX7_image_68 rfl ?_
      refine w_ialdN (k := i) dX7_image_69 (mg_wn hb) rfl (by omega) (kk := ?_)
      refine w_aMn_im (k := (((130 * k) + 96) + i)) dX7_image_70 hb (nadd (nadd rfl rfl) rfl) (by omega) ?_
      refine w_aload_n dX7_image_71 rfl ?_
      refine w_get dX7_image_72 f_X7_34 (mg0 hb) rfl ?_
      refine w_iload_n dX7_image_75 rfl ?_
      refine w_bipush (v := 102) dX7_image_76 (by decide) ?_
      refine w_iadd dX7_image_78 ?_
      refine w_iload_n dX7_image_79 rfl ?_
      refine w_iadd dX7_image_80 ?_
      refine w_aload_n dX7_image_81 rfl ?_
      refine w_get dX7_image_82 f_X7_19 (mg0 hb) rfl ?_
      refine w_iload_n dX7_image_85 rfl ?_
      refine w_ialdN (k := i) dX7_image_86 (mg_hi hb) rfl (by omega) (kk := ?_)
      refine w_aMn_im (k := (((130 * k) + 102) + i)) dX7_image_87 hb (nadd (nadd rfl rfl) rfl) (by omega) ?_
      refine w_iinc_3 (v := 1) dX7_image_88 (by decide) (Nat.le_of_ble_eq_true rfl) rfl ?_
      refine w_goto (tgt := 48) dX7_image_91 (by decide) ?_
      exact w_heq (congrArg (fun z => mput h (tim M z)) (imB_s M (130 * k) i)) (w_loc_3 (nI_1 i) (ih (i + 1) (by omega)))
  have l1 : ∀ (q i : Nat), i + q = 96 → Wp l D YX7_image (pRm 2 0 0) h.length (fun _ _ _ => True) (mE D h.length 0 0 (some (.int 1)) (mput h (mImg M k))) 20 [some (.ref 28), some (.int (nI k)), some (.int (nI (130 * k))), some (.int (nI i))] [] (mput h (tim M (imA M (130 * k) i))) 0 := by
    intro q
    induction q with
    | zero =>
      intro i hi
      have hi : i = 96 := by omega
      subst hi
      refine w_iload_n dX7_image_20 rfl ?_
      refine w_bipush (v := 96) dX7_image_21 (by decide) ?_
      refine w_icmp_ge_t (tgt := 46) dX7_image_23 (by decide) (Int32.le_refl _) ?_
      refine w_iconst (v := 0) dX7_image_46 (by decide) ?_
      refine w_istore_3 dX7_image_47 (Nat.le_of_ble_eq_true rfl) rfl ?_
      exact w_heq (congrArg (fun z => mput h (tim M z)) (imB_0 M (130 * k))) (l2 6 0 rfl)
    | succ q ih =>
      intro i hi
      refine w_iload_n dX7_image_20 rfl ?_
      refine w_bipush (v := 96) dX7_image_21 (by decide) ?_
      refine w_icmp_ge_f dX7_image_23 ⟨46, by decide⟩ (lp_g hi (by decide) rfl) ?_
      refine w_aload_n dX7_image_26 rfl ?_
      refine w_get dX7_image_27 f_X7_34 (mg0 hb) rfl ?_
      refine w_iload_n dX7_image_30 rfl ?_
      refine w_iload_n dX7_image_31 rfl ?_
      refine w_iadd dX7_image_32 ?_
      refine w_aload_n dX7_image_33 rfl ?_
      refine w_get dX7_image_34 f_X7_7 (mg0 hb) rfl ?_
      refine w_iload_n dX7_image_37 rfl ?_
      refine w_ialdN (k := i) dX7_image_38 (mg_bk hb) rfl (by omega) (kk := ?_)
      refine w_aMn_im (k := ((130 * k) + i)) dX7_image_39 hb (nadd rfl rfl) (by omega) ?_
      refine w_iinc_3 (v := 1) dX7_image_40 (by decide) (Nat.le_of_ble_eq_true rfl) rfl ?_
      refine w_goto (tgt := 20) dX7_image_43 (by decide) ?_
      exact w_heq (congrArg (fun z => mput h (tim M z)) (imA_s M (130 * k) i)) (w_loc_3 (nI_1 i) (ih (i + 1) (by omega)))
  refine w_iload_n dX7_image_0 rfl ?_
  refine w_iconst (v := 0) dX7_image_1 (by decide) ?_
  refine w_iconst (v := 1) dX7_image_2 (by decide) ?_
  refine w_callSr dX7_image_3 k_X7_41 (pm_X7_in) rfl rfl (Nat.le_of_ble_eq_true rfl) (Nat.le_of_ble_eq_true rfl) (Nat.le_of_ble_eq_true rfl) (rc00 (mlen hb) (Nat.le_refl 0)) ?_
  refine w_zif_ne_t (tgt := 12) dX7_image_6 (by decide) (in_r (a := 0) (b := 1) rfl rfl (by omega) (by omega) (by decide)) ?_
  refine w_sipush (v := 130) dX7_image_12 (by decide) ?_
  refine w_iload_n dX7_image_15 rfl ?_
  refine w_imul dX7_image_16 ?_
  refine w_istore_2 dX7_image_17 (Nat.le_of_ble_eq_true rfl) rfl ?_
  refine w_loc_2 (nmul (a := 130) rfl rfl) ?_
  refine w_iconst (v := 0) dX7_image_18 (by decide) ?_
  refine w_istore_3 dX7_image_19 (Nat.le_of_ble_eq_true rfl) rfl ?_
  exact w_heq (congrArg (fun z => mput h (tim M z)) (imA_0 M (130 * k))) (l1 96 0 rfl)

set_option maxRecDepth 100000 in
set_option maxHeartbeats 1000000 in
theorem pm_X7_restore_r {l : Launch} {D : va_G} {h : PH} {M : MS} (hb : 38 < h.length) {x : Int32} (hn : sIn x 0 1 = false) : PM l D YX7_restore 2 [.ref 28, .int x] (mput h M) 0 0 (some (.int (-2))) (mput h M) := by
  refine pm_of2 (n0 := h.length) kb_YX7_restore (mlen hb) [some (.ref 28), some (.int x), none, none] (fun _ => rfl) (fun _ => (Nat.le_of_ble_eq_true rfl)) ?_
  refine w_iload_n dX7_restore_0 rfl ?_
  refine w_iconst (v := 0) dX7_restore_1 (by decide) ?_
  refine w_iconst (v := 1) dX7_restore_2 (by decide) ?_
  refine w_callSr dX7_restore_3 k_X7_41 (pm_X7_in) rfl rfl (Nat.le_of_ble_eq_true rfl) (Nat.le_of_ble_eq_true rfl) (Nat.le_of_ble_eq_true rfl) (rc00 (mlen hb) (Nat.le_refl 0)) ?_
  refine w_zif_ne_f dX7_restore_6 ⟨12, by decide⟩ hn ?_
  refine w_bipush (v := (-2)) dX7_restore_9 (by decide) ?_
  exact w_iret dX7_restore_11 rfl rfl rfl (mlen hb) (Nat.le_refl 0)

set_option maxRecDepth 100000 in
set_option maxHeartbeats 1000000 in
theorem pm_X7_restore_n {l : Launch} {D : va_G} {h : PH} {M : MS} (hb : 38 < h.length) {k : Nat} (hk : k < 2) (h0 : mkp M k = 0) : PM l D YX7_restore 2 [.ref 28, .int (nI k)] (mput h M) 0 0 (some (.int (-3))) (mput h M) := by
  refine pm_of2 (n0 := h.length) kb_YX7_restore (mlen hb) [some (.ref 28), some (.int (nI k)), none, none] (fun _ => rfl) (fun _ => (Nat.le_of_ble_eq_true rfl)) ?_
  refine w_iload_n dX7_restore_0 rfl ?_
  refine w_iconst (v := 0) dX7_restore_1 (by decide) ?_
  refine w_iconst (v := 1) dX7_restore_2 (by decide) ?_
  refine w_callSr dX7_restore_3 k_X7_41 (pm_X7_in) rfl rfl (Nat.le_of_ble_eq_true rfl) (Nat.le_of_ble_eq_true rfl) (Nat.le_of_ble_eq_true rfl) (rc00 (mlen hb) (Nat.le_refl 0)) ?_
  refine w_zif_ne_t (tgt := 12) dX7_restore_6 (by decide) (in_r (a := 0) (b := 1) rfl rfl (by omega) (by omega) (by decide)) ?_
  refine w_aload_n dX7_restore_12 rfl ?_
  refine w_get dX7_restore_13 f_X7_37 (mg0 hb) rfl ?_
  refine w_iload_n dX7_restore_16 rfl ?_
  refine w_zald dX7_restore_17 (mg_kp hb) (vp_in_nI hk (by decide)) ?_
  rw [nI_clamp (show k < 2 ^ 31 by omega)]
  refine w_if_ne_f dX7_restore_18 ⟨24, by decide⟩ h0 ?_
  refine w_bipush (v := (-3)) dX7_restore_21 (by decide) ?_
  exact w_iret dX7_restore_23 rfl rfl rfl (mlen hb) (Nat.le_refl 0)

theorem reA_0 (M : MS) (o : Nat) : mbk M = reA M o 0 := rfl
theorem reA_s (M : MS) (o i : Nat) : upd (reA M o i) i (mim M (o + i)) = reA M o (i + 1) := rfl
theorem reW_0 (M : MS) (o : Nat) : mwn M = reW M o 0 := rfl
theorem reW_s (M : MS) (o i : Nat) : upd (reW M o i) i (mim M (o + 96 + i)) = reW M o (i + 1) := rfl
theorem reH_0 (M : MS) (o : Nat) : mhi M = reH M o 0 := rfl
theorem reH_s (M : MS) (o i : Nat) : upd (reH M o i) i (mim M (o + 102 + i)) = reH M o (i + 1) := rfl
theorem reS_0 (M : MS) (o : Nat) : msi M = reS M o 0 := rfl
theorem reS_s (M : MS) (o i : Nat) : upd (reS M o i) i (mim M (o + 108 + i)) = reS M o (i + 1) := rfl
set_option maxRecDepth 100000 in
set_option maxHeartbeats 1000000 in
theorem pm_X7_restore_a {l : Launch} {D : va_G} {h : PH} {M : MS} (hb : 38 < h.length) {k : Nat} (hk : k < 2) (h0 : ¬ mkp M k = 0) : PM l D YX7_restore 2 [.ref 28, .int (nI k)] (mput h M) 0 0 (some (.int 1)) (mput h (mRes M k)) := by
  refine pm_of2 (n0 := h.length) kb_YX7_restore (mlen hb) [some (.ref 28), some (.int (nI k)), none, none] (fun _ => rfl) (fun _ => (Nat.le_of_ble_eq_true rfl)) ?_
  have last : ∀ o3, Wp l D YX7_restore (pRm 2 0 0) h.length (fun _ _ _ => True) (mE D h.length 0 0 (some (.int 1)) (mput h (mRes M k))) 137 [some (.ref 28), some (.int (nI k)), some (.int (nI (130 * k))), o3] [] (mput h (tsi (thi (twn (tbk M (reA M (130 * k) 96)) (reW M (130 * k) 6)) (reH M (130 * k) 6)) (reS M (130 * k) 16))) 0 := by
    intro o3
    refine w_aload_n dX7_restore_137 rfl ?_
    refine w_aload_n dX7_restore_138 rfl ?_
    refine w_get dX7_restore_139 f_X7_34 (mg0 hb) rfl ?_
    refine w_iload_n dX7_restore_142 rfl ?_
    refine w_bipush (v := 124) dX7_restore_143 (by decide) ?_
    refine w_iadd dX7_restore_145 ?_
    refine w_ialdN (k := ((130 * k) + 124)) dX7_restore_146 (mg_im hb) (nadd rfl rfl) (by omega) (kk := ?_)
    refine w_pM4 dX7_restore_147 f_X7_129 hb ?_
    refine w_iconst (v := 1) dX7_restore_150 (by decide) ?_
    exact w_iret dX7_restore_151 rfl rfl rfl (mlen hb) (Nat.le_refl 0)
  have l3 : ∀ (q i : Nat), i + q = 16 → Wp l D YX7_restore (pRm 2 0 0) h.length (fun _ _ _ => True) (mE D h.length 0 0 (some (.int 1)) (mput h (mRes M k))) 108 [some (.ref 28), some (.int (nI k)), some (.int (nI (130 * k))), some (.int (nI i))] [] (mput h (tsi (thi (twn (tbk M (reA M (130 * k) 96)) (reW M (130 * k) 6)) (reH M (130 * k) 6)) (reS M (130 * k) i))) 0 := by
    intro q
    induction q with
    | zero =>
      intro i hi
      have hi : i = 16 := by omega
      subst hi
      refine w_iload_n dX7_restore_108 rfl ?_
      refine w_bipush (v := 16) dX7_restore_109 (by decide) ?_
      refine w_icmp_ge_t (tgt := 137) dX7_restore_111 (by decide) (Int32.le_refl _) ?_
      exact last _
    | succ q ih =>
      intro i hi
      refine w_iload_n dX7_restore_108 rfl ?_
      refine w_bipush (v := 16) dX7_restore_109 (by decide) ?_
      refine w_icmp_ge_f dX7_restore_111 ⟨137, by decide⟩ (lp_g hi (by decide) rfl) ?_
      refine w_aload_n dX7_restore_114 rfl ?_
      refine w_get dX7_restore_115 f_X7_22 (mg0 hb) rfl ?_
      refine w_iload_n dX7_restore_118 rfl ?_
      refine w_aload_n dX7_restore_119 rfl ?_
      refine w_get dX7_restore_120 f_X7_34 (mg0 hb) rfl ?_
      refine w_iload_n dX7_restore_123 rfl ?_
      refine w_bipush (v := 108) dX7_restore_124 (by decide) ?_
      refine w_iadd dX7_restore_126 ?_
      refine w_iload_n dX7_restore_127 rfl ?_
      refine w_iadd dX7_restore_128 ?_
      refine w_ialdN (k := (((130 * k) + 108) + i)) dX7_restore_129 (mg_im hb) (nadd (nadd rfl rfl) rfl) (by omega) (kk := ?_)
      refine w_aMn_si (k := i) dX7_restore_130 hb rfl (by omega) ?_
      refine w_iinc_3 (v := 1) dX7_restore_131 (by decide) (Nat.le_of_ble_eq_true rfl) rfl ?_
      refine w_goto (tgt := 108) dX7_restore_134 (by decide) ?_
      refine w_heq (h2 := (mput h (tsi (thi (twn (tbk M (reA M (130 * k) 96)) (reW M (130 * k) 6)) (reH M (130 * k) 6)) (reS M (130 * k) (i + 1))))) ?_ (w_loc_3 (nI_1 i) (ih (i + 1) (by omega)))
      rw [← reS_s]
      rfl
  have l2 : ∀ (q i : Nat), i + q = 6 → Wp l D YX7_restore (pRm 2 0 0) h.length (fun _ _ _ => True) (mE D h.length 0 0 (some (.int 1)) (mput h (mRes M k))) 60 [some (.ref 28), some (.int (nI k)), some (.int (nI (130 * k))), some (.int (nI i))] [] (mput h (thi (twn (tbk M (reA M (130 * k) 96)) (reW M (130 * k) i)) (reH M (130 * k) i))) 0 := by
    intro q
    induction q with
    | zero =>
      intro i hi
      have hi : i = 6 := by omega
      subst hi
      refine w_iload_n dX7_restore_60 rfl ?_
      refine w_bipush (v := 6) dX7_restore_61 (by decide) ?_
      refine w_icmp_ge_t (tgt := 106) dX7_restore_63 (by decide) (Int32.le_refl _) ?_
      refine w_iconst (v := 0) dX7_restore_106 (by decide) ?_
      refine w_istore_3 dX7_restore_107 (Nat.le_of_ble_eq_true rfl) rfl ?_
      refine w_heq (h2 := (mput h (tsi (thi (twn (tbk M (reA M (130 * k) 96)) (reW M (130 * k) 6)) (reH M (130 * k) 6)) (reS M (130 * k) 0)))) ?_ (l3 16 0 rfl)
      rw [← reS_0]
      rfl
    | succ q ih =>
      intro i hi
      refine w_iload_n dX7_restore_60 rfl ?_
      refine w_bipush (v := 6) dX7_restore_61 (by decide) ?_
      refine w_icmp_ge_f dX7_restore_63 ⟨106, by decide⟩ (lp_g hi (by decide) rfl) ?_
      refine w_aload_n dX7_restore_66 rfl ?_
      refine w_get dX7_restore_67 f_X7_16 (mg0 hb) rfl ?_
      refine w_iload_n dX7_restore_70 rfl ?_
      refine w_aload_n dX7_restore_71 rfl ?_
      refine w_get dX7_restore_72 f_X7_34 (mg0 hb) rfl ?_
      refine w_iload_n dX7_restore_75 rfl ?_
      refine w_bipush (v := 96) dX7_restore_76 (by decide) ?_
      refine w_iadd dX7_restore_78 ?_
      refine w_iload_n dX7_restore_79 rfl ?_
      refine w_iadd dX7_restore_80 ?_
      refine w_ialdN (k := (((130 * k) + 96) + i)) dX7_restore_81 (mg_im hb) (nadd (nadd rfl rfl) rfl) (by omega) (kk := ?_)
      refine w_aMn_wn (k := i) dX7_restore_82 hb rfl (by omega) ?_
      refine w_aload_n dX7_restore_83 rfl ?_
      refine w_get dX7_restore_84 f_X7_19 (mg0 hb) rfl ?_
      refine w_iload_n dX7_restore_87 rfl ?_
      refine w_aload_n dX7_restore_88 rfl ?_
      refine w_get dX7_restore_89 f_X7_34 (mg0 hb) rfl ?_
      refine w_iload_n dX7_restore_92 rfl ?_
      refine w_bipush (v := 102) dX7_restore_93 (by decide) ?_
      refine w_iadd dX7_restore_95 ?_
      refine w_iload_n dX7_restore_96 rfl ?_
      refine w_iadd dX7_restore_97 ?_
      refine w_ialdN (k := (((130 * k) + 102) + i)) dX7_restore_98 (mg_im hb) (nadd (nadd rfl rfl) rfl) (by omega) (kk := ?_)
      refine w_aMn_hi (k := i) dX7_restore_99 hb rfl (by omega) ?_
      refine w_iinc_3 (v := 1) dX7_restore_100 (by decide) (Nat.le_of_ble_eq_true rfl) rfl ?_
      refine w_goto (tgt := 60) dX7_restore_103 (by decide) ?_
      refine w_heq (h2 := (mput h (thi (twn (tbk M (reA M (130 * k) 96)) (reW M (130 * k) (i + 1))) (reH M (130 * k) (i + 1))))) ?_ (w_loc_3 (nI_1 i) (ih (i + 1) (by omega)))
      rw [← reW_s, ← reH_s]
      rfl
  have l1 : ∀ (q i : Nat), i + q = 96 → Wp l D YX7_restore (pRm 2 0 0) h.length (fun _ _ _ => True) (mE D h.length 0 0 (some (.int 1)) (mput h (mRes M k))) 32 [some (.ref 28), some (.int (nI k)), some (.int (nI (130 * k))), some (.int (nI i))] [] (mput h (tbk M (reA M (130 * k) i))) 0 := by
    intro q
    induction q with
    | zero =>
      intro i hi
      have hi : i = 96 := by omega
      subst hi
      refine w_iload_n dX7_restore_32 rfl ?_
      refine w_bipush (v := 96) dX7_restore_33 (by decide) ?_
      refine w_icmp_ge_t (tgt := 58) dX7_restore_35 (by decide) (Int32.le_refl _) ?_
      refine w_iconst (v := 0) dX7_restore_58 (by decide) ?_
      refine w_istore_3 dX7_restore_59 (Nat.le_of_ble_eq_true rfl) rfl ?_
      refine w_heq (h2 := (mput h (thi (twn (tbk M (reA M (130 * k) 96)) (reW M (130 * k) 0)) (reH M (130 * k) 0)))) ?_ (l2 6 0 rfl)
      rw [← reW_0, ← reH_0]
      rfl
    | succ q ih =>
      intro i hi
      refine w_iload_n dX7_restore_32 rfl ?_
      refine w_bipush (v := 96) dX7_restore_33 (by decide) ?_
      refine w_icmp_ge_f dX7_restore_35 ⟨58, by decide⟩ (lp_g hi (by decide) rfl) ?_
      refine w_aload_n dX7_restore_38 rfl ?_
      refine w_get dX7_restore_39 f_X7_7 (mg0 hb) rfl ?_
      refine w_iload_n dX7_restore_42 rfl ?_
      refine w_aload_n dX7_restore_43 rfl ?_
      refine w_get dX7_restore_44 f_X7_34 (mg0 hb) rfl ?_
      refine w_iload_n dX7_restore_47 rfl ?_
      refine w_iload_n dX7_restore_48 rfl ?_
      refine w_iadd dX7_restore_49 ?_
      refine w_ialdN (k := ((130 * k) + i)) dX7_restore_50 (mg_im hb) (nadd rfl rfl) (by omega) (kk := ?_)
      refine w_aMn_bk (k := i) dX7_restore_51 hb rfl (by omega) ?_
      refine w_iinc_3 (v := 1) dX7_restore_52 (by decide) (Nat.le_of_ble_eq_true rfl) rfl ?_
      refine w_goto (tgt := 32) dX7_restore_55 (by decide) ?_
      refine w_heq (h2 := (mput h (tbk M (reA M (130 * k) (i + 1))))) ?_ (w_loc_3 (nI_1 i) (ih (i + 1) (by omega)))
      rw [← reA_s]
      rfl
  refine w_iload_n dX7_restore_0 rfl ?_
  refine w_iconst (v := 0) dX7_restore_1 (by decide) ?_
  refine w_iconst (v := 1) dX7_restore_2 (by decide) ?_
  refine w_callSr dX7_restore_3 k_X7_41 (pm_X7_in) rfl rfl (Nat.le_of_ble_eq_true rfl) (Nat.le_of_ble_eq_true rfl) (Nat.le_of_ble_eq_true rfl) (rc00 (mlen hb) (Nat.le_refl 0)) ?_
  refine w_zif_ne_t (tgt := 12) dX7_restore_6 (by decide) (in_r (a := 0) (b := 1) rfl rfl (by omega) (by omega) (by decide)) ?_
  refine w_aload_n dX7_restore_12 rfl ?_
  refine w_get dX7_restore_13 f_X7_37 (mg0 hb) rfl ?_
  refine w_iload_n dX7_restore_16 rfl ?_
  refine w_zald dX7_restore_17 (mg_kp hb) (vp_in_nI hk (by decide)) ?_
  rw [nI_clamp (show k < 2 ^ 31 by omega)]
  refine w_if_ne_t (tgt := 24) dX7_restore_18 (by decide) h0 ?_
  refine w_sipush (v := 130) dX7_restore_24 (by decide) ?_
  refine w_iload_n dX7_restore_27 rfl ?_
  refine w_imul dX7_restore_28 ?_
  refine w_istore_2 dX7_restore_29 (Nat.le_of_ble_eq_true rfl) rfl ?_
  refine w_loc_2 (nmul (a := 130) rfl rfl) ?_
  refine w_iconst (v := 0) dX7_restore_30 (by decide) ?_
  refine w_istore_3 dX7_restore_31 (Nat.le_of_ble_eq_true rfl) rfl ?_
  exact w_heq rfl (l1 96 0 rfl)

