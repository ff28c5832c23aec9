set_option maxRecDepth 100000 in
set_option maxHeartbeats 4000000 in
theorem pm_X5_bear {l : Launch} {D : va_G} {h : PH} {b : Nat} {S : WS} (hb : b + 8 < h.length) {s q p : Int32} (hs : vp_in s 8) : PM l D YX5_bear 2 [.ref b, .int s, .int q, .int p] (wput h b S) 0 0 none (wput h b (sBear S s q p)) := by
  refine pm_of2 (n0 := h.length) kb_YX5_bear (wlen hb) [some (.ref b), some (.int s), some (.int q), some (.int p), none] (fun _ => rfl) (fun _ => (Nat.le_of_ble_eq_true rfl)) ?_
  have loop : ∀ (k i : Nat), i + k = 8 → Wp l D YX5_bear (pRm 2 0 0) h.length (fun _ _ _ => True) (mE D h.length 0 0 none (wput h b (sBear S s q p))) 37 [some (.ref b), some (.int s), some (.int q), some (.int p), some (.int (nI i))] [] (wput h b (wlv S ||| (1 <<< (s &&& 31)), wyr S, wsg S, wop S, upd (wmk S) s.toNatClampNeg q, upd (wpu S) s.toNatClampNeg p, upd (wwa S) s.toNatClampNeg (-6), iter (sDebz s) i (wde S), wwn S, whi S, wco S, wsm S)) 0 := by
    intro k
    induction k with
    | zero =>
      intro i hi
      refine w_iload dX5_bear_37 rfl ?_
      refine w_bipush (v := 8) dX5_bear_39 (by decide) ?_
      refine w_icmp_ge_t (tgt := 74) dX5_bear_41 (by decide) (lp_x hi (by decide) rfl) ?_
      have hi : i = 8 := by omega
      subst hi
      exact w_vret dX5_bear_74 rfl rfl (wlen hb) (Nat.le_refl 0)
    | succ k ih =>
      intro i hi
      refine w_iload dX5_bear_37 rfl ?_
      refine w_bipush (v := 8) dX5_bear_39 (by decide) ?_
      refine w_icmp_ge_f dX5_bear_41 ⟨74, by decide⟩ (lp_g hi (by decide) rfl) ?_
      refine w_aload_n dX5_bear_44 rfl ?_
      refine w_get dX5_bear_45 f_X5_34 (wg0 hb) rfl ?_
      refine w_iload_n dX5_bear_48 rfl ?_
      refine w_iload dX5_bear_49 rfl ?_
      refine w_callSr dX5_bear_51 k_X5_63 (pm_X5_debtPlace) rfl rfl (Nat.le_of_ble_eq_true rfl) (Nat.le_of_ble_eq_true rfl) (Nat.le_of_ble_eq_true rfl) (rc00 (wlen hb) (Nat.le_refl 0)) ?_
      refine w_iconst (v := 0) dX5_bear_54 (by decide) ?_
      refine w_aW4 dX5_bear_55 hb (vin_deb hs (vin_8 hi (by decide))) ?_
      refine w_aload_n dX5_bear_56 rfl ?_
      refine w_get dX5_bear_57 f_X5_34 (wg0 hb) rfl ?_
      refine w_iload dX5_bear_60 rfl ?_
      refine w_iload_n dX5_bear_62 rfl ?_
      refine w_callSr dX5_bear_63 k_X5_63 (pm_X5_debtPlace) rfl rfl (Nat.le_of_ble_eq_true rfl) (Nat.le_of_ble_eq_true rfl) (Nat.le_of_ble_eq_true rfl) (rc00 (wlen hb) (Nat.le_refl 0)) ?_
      refine w_iconst (v := 0) dX5_bear_66 (by decide) ?_
      refine w_aW4 dX5_bear_67 hb (vin_deb (vin_8 hi (by decide)) hs) ?_
      refine w_iinc_4 (v := 1) dX5_bear_68 (by decide) (Nat.le_of_ble_eq_true rfl) rfl ?_
      refine w_goto (tgt := 37) dX5_bear_71 (by decide) ?_
      exact w_loc_4 (nI_1 i) (w_heq rfl (ih (i + 1) (by omega)))
  refine w_aload_n dX5_bear_0 rfl ?_
  refine w_dup dX5_bear_1 rfl ?_
  refine w_get dX5_bear_2 f_X5_9 (wg0 hb) rfl ?_
  refine w_iconst (v := 1) dX5_bear_5 (by decide) ?_
  refine w_iload_n dX5_bear_6 rfl ?_
  refine w_ishl dX5_bear_7 ?_
  refine w_ior dX5_bear_8 ?_
  refine w_pW0 dX5_bear_9 f_X5_9 hb ?_
  refine w_aload_n dX5_bear_12 rfl ?_
  refine w_get dX5_bear_13 f_X5_24 (wg0 hb) rfl ?_
  refine w_iload_n dX5_bear_16 rfl ?_
  refine w_iload_n dX5_bear_17 rfl ?_
  refine w_aW1 dX5_bear_18 hb hs ?_
  refine w_aload_n dX5_bear_19 rfl ?_
  refine w_get dX5_bear_20 f_X5_28 (wg0 hb) rfl ?_
  refine w_iload_n dX5_bear_23 rfl ?_
  refine w_iload_n dX5_bear_24 rfl ?_
  refine w_aW2 dX5_bear_25 hb hs ?_
  refine w_aload_n dX5_bear_26 rfl ?_
  refine w_get dX5_bear_27 f_X5_31 (wg0 hb) rfl ?_
  refine w_iload_n dX5_bear_30 rfl ?_
  refine w_bipush (v := (-6)) dX5_bear_31 (by decide) ?_
  refine w_aW3 dX5_bear_33 hb hs ?_
  refine w_iconst (v := 0) dX5_bear_34 (by decide) ?_
  refine w_istore_4 dX5_bear_35 (Nat.le_of_ble_eq_true rfl) rfl ?_
  exact w_heq rfl (loop 8 0 rfl)

set_option maxRecDepth 100000 in
set_option maxHeartbeats 4000000 in
theorem pm_X5_moveDebt {l : Launch} {D : va_G} {h : PH} {b : Nat} {S : WS} (hb : b + 8 < h.length) {f t : Int32} (hf : vp_in f 64) (ht : vp_in t 64) : PM l D YX5_moveDebt 1 [.ref b, .int f, .int t] (wput h b S) 0 0 none (wput h b (sde S (mvD f t (wde S)))) := by
  refine pm_of2 (n0 := h.length) kb_YX5_moveDebt (wlen hb) [some (.ref b), some (.int f), some (.int t)] (fun _ => rfl) (fun _ => (Nat.le_of_ble_eq_true rfl)) ?_
  refine w_aload_n dX5_moveDebt_0 rfl ?_
  refine w_get dX5_moveDebt_1 f_X5_34 (wg0 hb) rfl ?_
  refine w_iload_n dX5_moveDebt_4 rfl ?_
  refine w_aload_n dX5_moveDebt_5 rfl ?_
  refine w_get dX5_moveDebt_6 f_X5_34 (wg0 hb) rfl ?_
  refine w_iload_n dX5_moveDebt_9 rfl ?_
  refine w_iald dX5_moveDebt_10 (wg4 hb) (by assumption) ?_
  refine w_aW4 dX5_moveDebt_11 hb (by assumption) ?_
  refine w_aload_n dX5_moveDebt_12 rfl ?_
  refine w_get dX5_moveDebt_13 f_X5_34 (wg0 hb) rfl ?_
  refine w_iload_n dX5_moveDebt_16 rfl ?_
  refine w_iconst (v := 0) dX5_moveDebt_17 (by decide) ?_
  refine w_aW4 dX5_moveDebt_18 hb (by assumption) ?_
  exact w_vret dX5_moveDebt_19 rfl rfl (wlen hb) (Nat.le_refl 0)

set_option maxRecDepth 100000 in
set_option maxHeartbeats 4000000 in
theorem pm_X5_comeBack {l : Launch} {D : va_G} {h : PH} {b : Nat} {S : WS} (hb : b + 8 < h.length) {s o : Int32} (hs : vp_in s 8) (ho : vp_in o 8) (hso : ¬ s.toNatClampNeg = o.toNatClampNeg) : PM l D YX5_comeBack 2 [.ref b, .int s, .int o] (wput h b S) 0 0 none (wput h b (sBack S s o)) := by
  refine pm_of2 (n0 := h.length) kb_YX5_comeBack (wlen hb) [some (.ref b), some (.int s), some (.int o), none] (fun _ => rfl) (fun _ => (Nat.le_of_ble_eq_true rfl)) ?_
  have loop : ∀ (k i : Nat), i + k = 8 → Wp l D YX5_comeBack (pRm 2 0 0) h.length (fun _ _ _ => True) (mE D h.length 0 0 none (wput h b (sBack S s o))) 82 [some (.ref b), some (.int s), some (.int o), some (.int (nI i))] [] (wput h b ((wlv S ^^^ (1 <<< (s &&& 31))) ||| (1 <<< (o &&& 31)), wyr S, wsg S, wop S, upd (upd (wmk S) o.toNatClampNeg (wmk S s.toNatClampNeg &&& (wmk S s.toNatClampNeg - 1))) s.toNatClampNeg 0, upd (upd (wpu S) o.toNatClampNeg (wpu S s.toNatClampNeg / 2)) s.toNatClampNeg 0, upd (wwa S) o.toNatClampNeg s, iter (fMv s o) i (wde S), wwn S, whi S, wco S, wsm S)) 0 := by
    intro k
    induction k with
    | zero =>
      intro i hi
      refine w_iload_n dX5_comeBack_82 rfl ?_
      refine w_bipush (v := 8) dX5_comeBack_83 (by decide) ?_
      refine w_icmp_ge_t (tgt := 122) dX5_comeBack_85 (by decide) (lp_x hi (by decide) rfl) ?_
      have hi : i = 8 := by omega
      subst hi
      exact w_vret dX5_comeBack_122 rfl rfl (wlen hb) (Nat.le_refl 0)
    | succ k ih =>
      intro i hi
      refine w_iload_n dX5_comeBack_82 rfl ?_
      refine w_bipush (v := 8) dX5_comeBack_83 (by decide) ?_
      refine w_icmp_ge_f dX5_comeBack_85 ⟨122, by decide⟩ (lp_g hi (by decide) rfl) ?_
      refine w_aload_n dX5_comeBack_88 rfl ?_
      refine w_iload_n dX5_comeBack_89 rfl ?_
      refine w_iload_n dX5_comeBack_90 rfl ?_
      refine w_callSr dX5_comeBack_91 k_X5_63 (pm_X5_debtPlace) rfl rfl (Nat.le_of_ble_eq_true rfl) (Nat.le_of_ble_eq_true rfl) (Nat.le_of_ble_eq_true rfl) (rc00 (wlen hb) (Nat.le_refl 0)) ?_
      refine w_iload_n dX5_comeBack_94 rfl ?_
      refine w_iload_n dX5_comeBack_95 rfl ?_
      refine w_callSr dX5_comeBack_96 k_X5_63 (pm_X5_debtPlace) rfl rfl (Nat.le_of_ble_eq_true rfl) (Nat.le_of_ble_eq_true rfl) (Nat.le_of_ble_eq_true rfl) (rc00 (wlen hb) (Nat.le_refl 0)) ?_
      refine w_callVv dX5_comeBack_99 k_X5_116 (pm_X5_moveDebt hb (by first | exact vin_deb hs (vin_8 hi (by decide)) | exact vin_deb (vin_8 hi (by decide)) hs) (by first | exact vin_deb ho (vin_8 hi (by decide)) | exact vin_deb (vin_8 hi (by decide)) ho)) rfl rfl (wg0 hb) rfl (Nat.le_of_ble_eq_true rfl) (Nat.le_of_ble_eq_true rfl) (Nat.le_of_ble_eq_true rfl) (rc00 (wlen hb) (Nat.le_refl 0)) ?_
      refine w_aload_n dX5_comeBack_102 rfl ?_
      refine w_iload_n dX5_comeBack_103 rfl ?_
      refine w_iload_n dX5_comeBack_104 rfl ?_
      refine w_callSr dX5_comeBack_105 k_X5_63 (pm_X5_debtPlace) rfl rfl (Nat.le_of_ble_eq_true rfl) (Nat.le_of_ble_eq_true rfl) (Nat.le_of_ble_eq_true rfl) (rc00 (wlen hb) (Nat.le_refl 0)) ?_
      refine w_iload_n dX5_comeBack_108 rfl ?_
      refine w_iload_n dX5_comeBack_109 rfl ?_
      refine w_callSr dX5_comeBack_110 k_X5_63 (pm_X5_debtPlace) rfl rfl (Nat.le_of_ble_eq_true rfl) (Nat.le_of_ble_eq_true rfl) (Nat.le_of_ble_eq_true rfl) (rc00 (wlen hb) (Nat.le_refl 0)) ?_
      refine w_callVv dX5_comeBack_113 k_X5_116 (pm_X5_moveDebt hb (by first | exact vin_deb hs (vin_8 hi (by decide)) | exact vin_deb (vin_8 hi (by decide)) hs) (by first | exact vin_deb ho (vin_8 hi (by decide)) | exact vin_deb (vin_8 hi (by decide)) ho)) rfl rfl (wg0 hb) rfl (Nat.le_of_ble_eq_true rfl) (Nat.le_of_ble_eq_true rfl) (Nat.le_of_ble_eq_true rfl) (rc00 (wlen hb) (Nat.le_refl 0)) ?_
      refine w_iinc_3 (v := 1) dX5_comeBack_116 (by decide) (Nat.le_of_ble_eq_true rfl) rfl ?_
      refine w_goto (tgt := 82) dX5_comeBack_119 (by decide) ?_
      exact w_loc_3 (nI_1 i) (w_heq rfl (ih (i + 1) (by omega)))
  refine w_aload_n dX5_comeBack_0 rfl ?_
  refine w_dup dX5_comeBack_1 rfl ?_
  refine w_get dX5_comeBack_2 f_X5_9 (wg0 hb) rfl ?_
  refine w_iconst (v := 1) dX5_comeBack_5 (by decide) ?_
  refine w_iload_n dX5_comeBack_6 rfl ?_
  refine w_ishl dX5_comeBack_7 ?_
  refine w_ixor dX5_comeBack_8 ?_
  refine w_pW0 dX5_comeBack_9 f_X5_9 hb ?_
  refine w_aload_n dX5_comeBack_12 rfl ?_
  refine w_dup dX5_comeBack_13 rfl ?_
  refine w_get dX5_comeBack_14 f_X5_9 (wg0 hb) rfl ?_
  refine w_iconst (v := 1) dX5_comeBack_17 (by decide) ?_
  refine w_iload_n dX5_comeBack_18 rfl ?_
  refine w_ishl dX5_comeBack_19 ?_
  refine w_ior dX5_comeBack_20 ?_
  refine w_pW0 dX5_comeBack_21 f_X5_9 hb ?_
  refine w_aload_n dX5_comeBack_24 rfl ?_
  refine w_get dX5_comeBack_25 f_X5_24 (wg0 hb) rfl ?_
  refine w_iload_n dX5_comeBack_28 rfl ?_
  refine w_aload_n dX5_comeBack_29 rfl ?_
  refine w_get dX5_comeBack_30 f_X5_24 (wg0 hb) rfl ?_
  refine w_iload_n dX5_comeBack_33 rfl ?_
  refine w_iald dX5_comeBack_34 (wg1 hb) (by assumption) ?_
  refine w_aload_n dX5_comeBack_35 rfl ?_
  refine w_get dX5_comeBack_36 f_X5_24 (wg0 hb) rfl ?_
  refine w_iload_n dX5_comeBack_39 rfl ?_
  refine w_iald dX5_comeBack_40 (wg1 hb) (by assumption) ?_
  refine w_iconst (v := 1) dX5_comeBack_41 (by decide) ?_
  refine w_isub dX5_comeBack_42 ?_
  refine w_iand dX5_comeBack_43 ?_
  refine w_aW1 dX5_comeBack_44 hb (by assumption) ?_
  refine w_aload_n dX5_comeBack_45 rfl ?_
  refine w_get dX5_comeBack_46 f_X5_28 (wg0 hb) rfl ?_
  refine w_iload_n dX5_comeBack_49 rfl ?_
  refine w_aload_n dX5_comeBack_50 rfl ?_
  refine w_get dX5_comeBack_51 f_X5_28 (wg0 hb) rfl ?_
  refine w_iload_n dX5_comeBack_54 rfl ?_
  refine w_iald dX5_comeBack_55 (wg2 hb) (by assumption) ?_
  refine w_iconst (v := 2) dX5_comeBack_56 (by decide) ?_
  refine w_idiv dX5_comeBack_57 (by decide) ?_
  refine w_aW2 dX5_comeBack_58 hb (by assumption) ?_
  refine w_aload_n dX5_comeBack_59 rfl ?_
  refine w_get dX5_comeBack_60 f_X5_31 (wg0 hb) rfl ?_
  refine w_iload_n dX5_comeBack_63 rfl ?_
  refine w_iload_n dX5_comeBack_64 rfl ?_
  refine w_aW3 dX5_comeBack_65 hb (by assumption) ?_
  refine w_aload_n dX5_comeBack_66 rfl ?_
  refine w_get dX5_comeBack_67 f_X5_24 (wg0 hb) rfl ?_
  refine w_iload_n dX5_comeBack_70 rfl ?_
  refine w_iconst (v := 0) dX5_comeBack_71 (by decide) ?_
  refine w_aW1 dX5_comeBack_72 hb (by assumption) ?_
  refine w_aload_n dX5_comeBack_73 rfl ?_
  refine w_get dX5_comeBack_74 f_X5_28 (wg0 hb) rfl ?_
  refine w_iload_n dX5_comeBack_77 rfl ?_
  refine w_iconst (v := 0) dX5_comeBack_78 (by decide) ?_
  refine w_aW2 dX5_comeBack_79 hb (by assumption) ?_
  refine w_iconst (v := 0) dX5_comeBack_80 (by decide) ?_
  refine w_istore_3 dX5_comeBack_81 (Nat.le_of_ble_eq_true rfl) rfl ?_
  exact w_heq rfl (loop 8 0 rfl)

set_option maxRecDepth 100000 in
set_option maxHeartbeats 4000000 in
theorem pm_X5_fillPurse {l : Launch} {D : va_G} {h : PH} {b : Nat} {S : WS} (hb : b + 8 < h.length) {s q : Int32} (hs : vp_in s 8) : PM l D YX5_fillPurse 1 [.ref b, .int s, .int q] (wput h b S) 0 0 none (wput h b (sFill S s q)) := by
  refine pm_of2 (n0 := h.length) kb_YX5_fillPurse (wlen hb) [some (.ref b), some (.int s), some (.int q)] (fun _ => rfl) (fun _ => (Nat.le_of_ble_eq_true rfl)) ?_
  refine w_aload_n dX5_fillPurse_0 rfl ?_
  refine w_get dX5_fillPurse_1 f_X5_28 (wg0 hb) rfl ?_
  refine w_iload_n dX5_fillPurse_4 rfl ?_
  refine w_sipush (v := 999) dX5_fillPurse_5 (by decide) ?_
  refine w_aload_n dX5_fillPurse_8 rfl ?_
  refine w_get dX5_fillPurse_9 f_X5_28 (wg0 hb) rfl ?_
  refine w_iload_n dX5_fillPurse_12 rfl ?_
  refine w_iald dX5_fillPurse_13 (wg2 hb) (by assumption) ?_
  refine w_iload_n dX5_fillPurse_14 rfl ?_
  refine w_iadd dX5_fillPurse_15 ?_
  refine w_mmin dX5_fillPurse_16 m_X5_119 (Nat.le_of_ble_eq_true rfl) (Nat.le_of_ble_eq_true rfl) (Nat.le_of_ble_eq_true rfl) (rc01 (wlen hb) (Nat.le_refl 0)) ?_
  refine w_aW2 dX5_fillPurse_19 hb (by assumption) ?_
  exact w_vret dX5_fillPurse_20 rfl rfl (wlen hb) (Nat.le_refl 0)

set_option maxRecDepth 100000 in
set_option maxHeartbeats 4000000 in
theorem pm_X5_canLend {l : Launch} {D : va_G} {h : PH} {b : Nat} {S : WS} (hb : b + 8 < h.length) {a d q : Int32} (ha : vp_in a 8) (hd : vp_in d 8) : PM l D YX5_canLend 2 [.ref b, .int a, .int d, .int q] (wput h b S) 0 0 (some (.int (b2i (sCanL S a d q)))) (wput h b S) := by
  refine pm_of2 (n0 := h.length) kb_YX5_canLend (wlen hb) [some (.ref b), some (.int a), some (.int d), some (.int q)] (fun _ => rfl) (fun _ => (Nat.le_of_ble_eq_true rfl)) ?_
  refine w_aload_n dX5_canLend_0 rfl ?_
  refine w_get dX5_canLend_1 f_X5_28 (wg0 hb) rfl ?_
  refine w_iload_n dX5_canLend_4 rfl ?_
  refine w_iald dX5_canLend_5 (wg2 hb) ha ?_
  refine w_iload_n dX5_canLend_6 rfl ?_
  refine w_ticmp_lt (a := ?a7_1) (b := ?b7_1) (pJ := 33) (tgt := 32) dX5_canLend_7 (by decide) (fun c_7 k => ?hA7_1) (fun c_7 k => ?hB7_1) ?hk7_1
  case hA7_1 =>
    refine w_iconst (v := 0) dX5_canLend_32 (by decide) ?_
    exact k
  case hB7_1 =>
    refine w_aload_n dX5_canLend_10 rfl ?_
    refine w_get dX5_canLend_11 f_X5_34 (wg0 hb) rfl ?_
    refine w_iload_n dX5_canLend_14 rfl ?_
    refine w_iload_n dX5_canLend_15 rfl ?_
    refine w_callSr dX5_canLend_16 k_X5_63 (pm_X5_debtPlace) rfl rfl (Nat.le_of_ble_eq_true rfl) (Nat.le_of_ble_eq_true rfl) (Nat.le_of_ble_eq_true rfl) (rc00 (wlen hb) (Nat.le_refl 0)) ?_
    refine w_iald dX5_canLend_19 (wg4 hb) (vin_deb hd ha) ?_
    refine w_iload_n dX5_canLend_20 rfl ?_
    refine w_iadd dX5_canLend_21 ?_
    refine w_sipush (v := 999) dX5_canLend_22 (by decide) ?_
    refine w_ticmp_gt (a := ?a25_2) (b := ?b25_2) (pJ := 33) (tgt := 32) dX5_canLend_25 (by decide) (fun c_25 k => ?hA25_2) (fun c_25 k => ?hB25_2) ?hk25_2
    case hA25_2 =>
      refine w_iconst (v := 0) dX5_canLend_32 (by decide) ?_
      exact k
    case hB25_2 =>
      refine w_iconst (v := 1) dX5_canLend_28 (by decide) ?_
      refine w_goto (tgt := 33) dX5_canLend_29 (by decide) ?_
      exact k
    exact k
  exact w_zretb dX5_canLend_33 rfl (by simp only [sCanL, b2i, Bool.and_eq_true, decide_eq_true_eq]; by_cases q1 : wpu S a.toNatClampNeg < q <;> by_cases q2 : 999 < wde S (sDeb d a).toNatClampNeg + q <;> simp [q1, q2, ← Int32.not_lt]) rfl (wlen hb) (Nat.le_refl 0)

set_option maxRecDepth 100000 in
set_option maxHeartbeats 4000000 in
theorem pm_X5_lend {l : Launch} {D : va_G} {h : PH} {b : Nat} {S : WS} (hb : b + 8 < h.length) {a d q : Int32} (ha : vp_in a 8) (hd : vp_in d 8) : PM l D YX5_lend 2 [.ref b, .int a, .int d, .int q] (wput h b S) 0 0 none (wput h b (sLend S a d q)) := by
  refine pm_of2 (n0 := h.length) kb_YX5_lend (wlen hb) [some (.ref b), some (.int a), some (.int d), some (.int q)] (fun _ => rfl) (fun _ => (Nat.le_of_ble_eq_true rfl)) ?_
  refine w_aload_n dX5_lend_0 rfl ?_
  refine w_get dX5_lend_1 f_X5_28 (wg0 hb) rfl ?_
  refine w_iload_n dX5_lend_4 rfl ?_
  refine w_dup2 dX5_lend_5 rfl rfl ?_
  refine w_iald dX5_lend_6 (wg2 hb) ha ?_
  refine w_iload_n dX5_lend_7 rfl ?_
  refine w_isub dX5_lend_8 ?_
  refine w_aW2 dX5_lend_9 hb ha ?_
  refine w_aload_n dX5_lend_10 rfl ?_
  refine w_iload_n dX5_lend_11 rfl ?_
  refine w_iload_n dX5_lend_12 rfl ?_
  refine w_callVv dX5_lend_13 k_X5_113 (pm_X5_fillPurse hb (by first | assumption | exact vin_liv (sLet_liv (by assumption)))) rfl rfl (wg0 hb) rfl (Nat.le_of_ble_eq_true rfl) (Nat.le_of_ble_eq_true rfl) (Nat.le_of_ble_eq_true rfl) (rc00 (wlen hb) (Nat.le_refl 0)) ?_
  refine w_aload_n dX5_lend_16 rfl ?_
  refine w_get dX5_lend_17 f_X5_34 (wg0 hb) rfl ?_
  refine w_iload_n dX5_lend_20 rfl ?_
  refine w_iload_n dX5_lend_21 rfl ?_
  refine w_callSr dX5_lend_22 k_X5_63 (pm_X5_debtPlace) rfl rfl (Nat.le_of_ble_eq_true rfl) (Nat.le_of_ble_eq_true rfl) (Nat.le_of_ble_eq_true rfl) (rc00 (wlen hb) (Nat.le_refl 0)) ?_
  refine w_dup2 dX5_lend_25 rfl rfl ?_
  refine w_iald dX5_lend_26 (wg4 hb) (vin_deb hd ha) ?_
  refine w_iload_n dX5_lend_27 rfl ?_
  refine w_iadd dX5_lend_28 ?_
  refine w_aW4 dX5_lend_29 hb (vin_deb hd ha) ?_
  exact w_vret dX5_lend_30 rfl rfl (wlen hb) (Nat.le_refl 0)

set_option maxRecDepth 100000 in
set_option maxHeartbeats 4000000 in
theorem pm_X5_tryBox {l : Launch} {D : va_G} {h : PH} {b : Nat} {S : WS} (hb : b + 8 < h.length) {s x : Int32} : PM l D YX5_tryBox 4 [.ref b, .int s, .int x] (wput h b S) 0 0 none (wput h b (sTry S s x)) := by
  refine pm_of2 (n0 := h.length) kb_YX5_tryBox (wlen hb) [some (.ref b), some (.int s), some (.int x)] (fun _ => rfl) (fun _ => (Nat.le_of_ble_eq_true rfl)) ?_
  refine w_aload_n dX5_tryBox_0 rfl ?_
  refine w_iload_n dX5_tryBox_1 rfl ?_
  refine w_iload_n dX5_tryBox_2 rfl ?_
  refine w_callVr dX5_tryBox_3 k_X5_82 (pm_X5_letsIn hb) rfl rfl (wg0 hb) rfl (Nat.le_of_ble_eq_true rfl) (Nat.le_of_ble_eq_true rfl) (Nat.le_of_ble_eq_true rfl) (rc00 (wlen hb) (Nat.le_refl 0)) ?_
  refine w_zif_eq (tgt := 27) dX5_tryBox_6 (by decide) (fun c_6 => ?_) (fun c_6 => ?_)
  · skip
    exact w_vret dX5_tryBox_27 rfl (by simp only [sTry, *]; rfl) (wlen hb) (Nat.le_refl 0)
  · skip
    refine w_aload_n dX5_tryBox_9 rfl ?_
    refine w_iload_n dX5_tryBox_10 rfl ?_
    refine w_aload_n dX5_tryBox_11 rfl ?_
    refine w_get dX5_tryBox_12 f_X5_43 (wg0 hb) rfl ?_
    refine w_iload_n dX5_tryBox_15 rfl ?_
    refine w_iald dX5_tryBox_16 (wg7 hb) (vin_box (sLet_box (by assumption))) ?_
    refine w_callVv dX5_tryBox_17 k_X5_113 (pm_X5_fillPurse hb (by first | assumption | exact vin_liv (sLet_liv (by assumption)))) rfl rfl (wg0 hb) rfl (Nat.le_of_ble_eq_true rfl) (Nat.le_of_ble_eq_true rfl) (Nat.le_of_ble_eq_true rfl) (rc00 (wlen hb) (Nat.le_refl 0)) ?_
    refine w_aload_n dX5_tryBox_20 rfl ?_
    refine w_get dX5_tryBox_21 f_X5_43 (wg0 hb) rfl ?_
    refine w_iload_n dX5_tryBox_24 rfl ?_
    refine w_iconst (v := 0) dX5_tryBox_25 (by decide) ?_
    refine w_aW7 dX5_tryBox_26 hb (vin_box (sLet_box (by assumption))) ?_
    exact w_vret dX5_tryBox_27 rfl (by simp only [sTry, *]; rfl) (wlen hb) (Nat.le_refl 0)

set_option maxRecDepth 100000 in
set_option maxHeartbeats 4000000 in
theorem pm_X5_hindrance {l : Launch} {D : va_G} {h : PH} {b : Nat} {S : WS} (hb : b + 8 < h.length) {a : Nat} {k f s c : Int32} (ha : (wput h b S)[a]? = some (.inr (0, [.int k, .int f, .int s, .int c]))) : PM l D YX5_hindrance 3 [.ref b, .ref a] (wput h b S) 0 0 (some (.int (sHind S k f s c))) (wput h b S) := by
  refine pm_of2 (n0 := h.length) kb_YX5_hindrance (wlen hb) [some (.ref b), some (.ref a)] (fun _ => rfl) (fun _ => (Nat.le_of_ble_eq_true rfl)) ?_
  refine w_aload_n dX5_hindrance_0 rfl ?_
  refine w_get dX5_hindrance_1 f_X5_85 ha rfl ?_
  refine w_if_ne (tgt := 22) dX5_hindrance_4 (by decide) (fun c_4 => ?_) (fun c_4 => ?_)
  · skip
    refine w_aload_n dX5_hindrance_22 rfl ?_
    refine w_aload_n dX5_hindrance_23 rfl ?_
    refine w_get dX5_hindrance_24 f_X5_90 ha rfl ?_
    refine w_callVr dX5_hindrance_27 k_X5_76 (pm_X5_isLiving hb) rfl rfl (wg0 hb) rfl (Nat.le_of_ble_eq_true rfl) (Nat.le_of_ble_eq_true rfl) (Nat.le_of_ble_eq_true rfl) (rc00 (wlen hb) (Nat.le_refl 0)) ?_
    refine w_zif_ne (tgt := 35) dX5_hindrance_30 (by decide) (fun c_30 => ?_) (fun c_30 => ?_)
    · skip
      refine w_aload_n dX5_hindrance_35 rfl ?_
      refine w_get dX5_hindrance_36 f_X5_85 ha rfl ?_
      refine w_iconst (v := 3) dX5_hindrance_39 (by decide) ?_
      refine w_icmp_ne (tgt := 45) dX5_hindrance_40 (by decide) (fun c_40 => ?_) (fun c_40 => ?_)
      · skip
        refine w_aload_n dX5_hindrance_45 rfl ?_
        refine w_get dX5_hindrance_46 f_X5_90 ha rfl ?_
        refine w_aload_n dX5_hindrance_49 rfl ?_
        refine w_get dX5_hindrance_50 f_X5_93 ha rfl ?_
        refine w_icmp_ne (tgt := 58) dX5_hindrance_53 (by decide) (fun c_53 => ?_) (fun c_53 => ?_)
        · skip
          refine w_aload_n dX5_hindrance_58 rfl ?_
          refine w_get dX5_hindrance_59 f_X5_85 ha rfl ?_
          refine w_iconst (v := 1) dX5_hindrance_62 (by decide) ?_
          refine w_icmp_ne (tgt := 93) dX5_hindrance_63 (by decide) (fun c_63 => ?_) (fun c_63 => ?_)
          · skip
            refine w_aload_n dX5_hindrance_93 rfl ?_
            refine w_aload_n dX5_hindrance_94 rfl ?_
            refine w_get dX5_hindrance_95 f_X5_93 ha rfl ?_
            refine w_callVr dX5_hindrance_98 k_X5_76 (pm_X5_isLiving hb) rfl rfl (wg0 hb) rfl (Nat.le_of_ble_eq_true rfl) (Nat.le_of_ble_eq_true rfl) (Nat.le_of_ble_eq_true rfl) (rc00 (wlen hb) (Nat.le_refl 0)) ?_
            refine w_zif_ne (tgt := 106) dX5_hindrance_101 (by decide) (fun c_101 => ?_) (fun c_101 => ?_)
            · skip
              refine w_aload_n dX5_hindrance_106 rfl ?_
              refine w_aload_n dX5_hindrance_107 rfl ?_
              refine w_get dX5_hindrance_108 f_X5_90 ha rfl ?_
              refine w_aload_n dX5_hindrance_111 rfl ?_
              refine w_get dX5_hindrance_112 f_X5_93 ha rfl ?_
              refine w_aload_n dX5_hindrance_115 rfl ?_
              refine w_get dX5_hindrance_116 f_X5_96 ha rfl ?_
              refine w_callVr dX5_hindrance_119 k_X5_98 (pm_X5_canLend hb (by first | assumption | exact vin_liv (by assumption)) (by first | assumption | exact vin_liv (by assumption))) rfl rfl (wg0 hb) rfl (Nat.le_of_ble_eq_true rfl) (Nat.le_of_ble_eq_true rfl) (Nat.le_of_ble_eq_true rfl) (rc00 (wlen hb) (Nat.le_refl 0)) ?_
              refine w_ztif_eq (a := ?a122_1) (b := ?b122_1) (pJ := 130) (tgt := 129) dX5_hindrance_122 (by decide) (fun c_122 k => ?hA122_1) (fun c_122 k => ?hB122_1) ?hk122_1
              case hA122_1 =>
                refine w_iconst (v := 4) dX5_hindrance_129 (by decide) ?_
                exact k
              case hB122_1 =>
                refine w_iconst (v := 0) dX5_hindrance_125 (by decide) ?_
                refine w_goto (tgt := 130) dX5_hindrance_126 (by decide) ?_
                exact k
              exact w_iret dX5_hindrance_130 rfl (by first | (simp [sHind, Int32.not_lt, Int32.not_le, cond_eq_ite, *]; done) | (simp_all [sHind]; done) | (simp [sHind, cond_eq_ite, *]; cases sSoul s <;> simp; done)) rfl (wlen hb) (Nat.le_refl 0)
            · skip
              refine w_iconst (v := 3) dX5_hindrance_104 (by decide) ?_
              exact w_iret dX5_hindrance_105 rfl (by first | (simp [sHind, Int32.not_lt, Int32.not_le, cond_eq_ite, *]; done) | (simp_all [sHind]; done) | (simp [sHind, cond_eq_ite, *]; cases sSoul s <;> simp; done)) rfl (wlen hb) (Nat.le_refl 0)
          · skip
            refine w_aload_n dX5_hindrance_66 rfl ?_
            refine w_get dX5_hindrance_67 f_X5_93 ha rfl ?_
            refine w_callSr dX5_hindrance_70 k_X5_55 (pm_X6_isSoul) rfl rfl (Nat.le_of_ble_eq_true rfl) (Nat.le_of_ble_eq_true rfl) (Nat.le_of_ble_eq_true rfl) (rc00 (wlen hb) (Nat.le_refl 0)) ?_
            refine w_ztif_eq (a := ?a73_2) (b := ?b73_2) (pJ := 92) (tgt := 87) dX5_hindrance_73 (by decide) (fun c_73 k => ?hA73_2) (fun c_73 k => ?hB73_2) ?hk73_2
            case hA73_2 =>
              refine w_iconst (v := 3) dX5_hindrance_87 (by decide) ?_
              refine w_goto (tgt := 92) dX5_hindrance_88 (by decide) ?_
              exact k
            case hB73_2 =>
              refine w_aload_n dX5_hindrance_76 rfl ?_
              refine w_aload_n dX5_hindrance_77 rfl ?_
              refine w_get dX5_hindrance_78 f_X5_93 ha rfl ?_
              refine w_callVr dX5_hindrance_81 k_X5_76 (pm_X5_isLiving hb) rfl rfl (wg0 hb) rfl (Nat.le_of_ble_eq_true rfl) (Nat.le_of_ble_eq_true rfl) (Nat.le_of_ble_eq_true rfl) (rc00 (wlen hb) (Nat.le_refl 0)) ?_
              refine w_ztif_eq (a := ?a84_3) (b := ?b84_3) (pJ := 92) (tgt := 91) dX5_hindrance_84 (by decide) (fun c_84 k => ?hA84_3) (fun c_84 k => ?hB84_3) ?hk84_3
              case hA84_3 =>
                refine w_iconst (v := 0) dX5_hindrance_91 (by decide) ?_
                exact k
              case hB84_3 =>
                refine w_iconst (v := 3) dX5_hindrance_87 (by decide) ?_
                refine w_goto (tgt := 92) dX5_hindrance_88 (by decide) ?_
                exact k
              exact k
            exact w_iret dX5_hindrance_92 rfl (by first | (simp [sHind, Int32.not_lt, Int32.not_le, cond_eq_ite, *]; done) | (simp_all [sHind]; done) | (simp [sHind, cond_eq_ite, *]; cases sSoul s <;> simp; done)) rfl (wlen hb) (Nat.le_refl 0)
        · skip
          refine w_iconst (v := 2) dX5_hindrance_56 (by decide) ?_
          exact w_iret dX5_hindrance_57 rfl (by first | (simp [sHind, Int32.not_lt, Int32.not_le, cond_eq_ite, *]; done) | (simp_all [sHind]; done) | (simp [sHind, cond_eq_ite, *]; cases sSoul s <;> simp; done)) rfl (wlen hb) (Nat.le_refl 0)
      · skip
        refine w_iconst (v := 0) dX5_hindrance_43 (by decide) ?_
        exact w_iret dX5_hindrance_44 rfl (by first | (simp [sHind, Int32.not_lt, Int32.not_le, cond_eq_ite, *]; done) | (simp_all [sHind]; done) | (simp [sHind, cond_eq_ite, *]; cases sSoul s <;> simp; done)) rfl (wlen hb) (Nat.le_refl 0)
    · skip
      refine w_iconst (v := 1) dX5_hindrance_33 (by decide) ?_
      exact w_iret dX5_hindrance_34 rfl (by first | (simp [sHind, Int32.not_lt, Int32.not_le, cond_eq_ite, *]; done) | (simp_all [sHind]; done) | (simp [sHind, cond_eq_ite, *]; cases sSoul s <;> simp; done)) rfl (wlen hb) (Nat.le_refl 0)
  · skip
    refine w_aload_n dX5_hindrance_7 rfl ?_
    refine w_get dX5_hindrance_8 f_X5_15 (wg0 hb) rfl ?_
    refine w_bipush (v := 99) dX5_hindrance_11 (by decide) ?_
    refine w_ticmp_lt (a := ?a13_4) (b := ?b13_4) (pJ := 21) (tgt := 20) dX5_hindrance_13 (by decide) (fun c_13 k => ?hA13_4) (fun c_13 k => ?hB13_4) ?hk13_4
    case hA13_4 =>
      refine w_iconst (v := 0) dX5_hindrance_20 (by decide) ?_
      exact k
    case hB13_4 =>
      refine w_iconst (v := 5) dX5_hindrance_16 (by decide) ?_
      refine w_goto (tgt := 21) dX5_hindrance_17 (by decide) ?_
      exact k
    exact w_iret dX5_hindrance_21 rfl (by first | (simp [sHind, Int32.not_lt, Int32.not_le, cond_eq_ite, *]; done) | (simp_all [sHind]; done) | (simp [sHind, cond_eq_ite, *]; cases sSoul s <;> simp; done)) rfl (wlen hb) (Nat.le_refl 0)

set_option maxRecDepth 100000 in
set_option maxHeartbeats 4000000 in
theorem pm_X5_perform {l : Launch} {D : va_G} {h : PH} {b : Nat} {S : WS} (hb : b + 8 < h.length) {a : Nat} {k f s c : Int32} (ha : (wput h b S)[a]? = some (.inr (0, [.int k, .int f, .int s, .int c]))) (hk : k = 0 ∨ k = 1 ∨ k = 2 ∨ k = 3) (h1 : k = 1 → vp_in f 8 ∧ vp_in s 8 ∧ ¬ f.toNatClampNeg = s.toNatClampNeg) (h2 : k = 2 → vp_in f 8 ∧ vp_in s 8) : PM l D YX5_perform 5 [.ref b, .ref a] (wput h b S) 0 0 none (wput h b (sPerf S k f s c)) := by
  refine pm_of2 (n0 := h.length) kb_YX5_perform (wlen hb) [some (.ref b), some (.ref a)] (fun _ => rfl) (fun _ => (Nat.le_of_ble_eq_true rfl)) ?_
  rcases hk with rfl | rfl | rfl | rfl
  · skip
    refine w_aload_n dX5_perform_0 rfl ?_
    refine w_get dX5_perform_1 f_X5_85 ha rfl ?_
    refine w_tableIn (tgt := 32) dX5_perform_4 (by decide) (by decide) rfl (by decide) ?_
    refine w_aload_n dX5_perform_32 rfl ?_
    refine w_dup dX5_perform_33 rfl ?_
    refine w_get dX5_perform_34 f_X5_15 (wg0 hb) rfl ?_
    refine w_iconst (v := 1) dX5_perform_37 (by decide) ?_
    refine w_iadd dX5_perform_38 ?_
    refine w_pW1 dX5_perform_39 f_X5_15 hb ?_
    refine w_goto (tgt := 91) dX5_perform_42 (by decide) ?_
    exact w_vret dX5_perform_91 rfl rfl (wlen hb) (Nat.le_refl 0)
  · skip
    refine w_aload_n dX5_perform_0 rfl ?_
    refine w_get dX5_perform_1 f_X5_85 ha rfl ?_
    refine w_tableIn (tgt := 45) dX5_perform_4 (by decide) (by decide) rfl (by decide) ?_
    refine w_aload_n dX5_perform_45 rfl ?_
    refine w_aload_n dX5_perform_46 rfl ?_
    refine w_get dX5_perform_47 f_X5_90 ha rfl ?_
    refine w_aload_n dX5_perform_50 rfl ?_
    refine w_get dX5_perform_51 f_X5_93 ha rfl ?_
    refine w_callVv dX5_perform_54 k_X5_102 (pm_X5_comeBack hb (h1 rfl).1 (h1 rfl).2.1 (h1 rfl).2.2) rfl rfl (wg0 hb) rfl (Nat.le_of_ble_eq_true rfl) (Nat.le_of_ble_eq_true rfl) (Nat.le_of_ble_eq_true rfl) (rc00 (wlen hb) (Nat.le_refl 0)) ?_
    refine w_goto (tgt := 91) dX5_perform_57 (by decide) ?_
    exact w_vret dX5_perform_91 rfl rfl (wlen hb) (Nat.le_refl 0)
  · skip
    refine w_aload_n dX5_perform_0 rfl ?_
    refine w_get dX5_perform_1 f_X5_85 ha rfl ?_
    refine w_tableIn (tgt := 60) dX5_perform_4 (by decide) (by decide) rfl (by decide) ?_
    refine w_aload_n dX5_perform_60 rfl ?_
    refine w_aload_n dX5_perform_61 rfl ?_
    refine w_get dX5_perform_62 f_X5_90 ha rfl ?_
    refine w_aload_n dX5_perform_65 rfl ?_
    refine w_get dX5_perform_66 f_X5_93 ha rfl ?_
    refine w_aload_n dX5_perform_69 rfl ?_
    refine w_get dX5_perform_70 f_X5_96 ha rfl ?_
    refine w_callVv dX5_perform_73 k_X5_106 (pm_X5_lend hb (h2 rfl).1 (h2 rfl).2) rfl rfl (wg0 hb) rfl (Nat.le_of_ble_eq_true rfl) (Nat.le_of_ble_eq_true rfl) (Nat.le_of_ble_eq_true rfl) (rc00 (wlen hb) (Nat.le_refl 0)) ?_
    refine w_goto (tgt := 91) dX5_perform_76 (by decide) ?_
    exact w_vret dX5_perform_91 rfl rfl (wlen hb) (Nat.le_refl 0)
  · skip
    refine w_aload_n dX5_perform_0 rfl ?_
    refine w_get dX5_perform_1 f_X5_85 ha rfl ?_
    refine w_tableOut (tgt := 79) dX5_perform_4 (by decide) (by decide) ?_
    refine w_aload_n dX5_perform_79 rfl ?_
    refine w_aload_n dX5_perform_80 rfl ?_
    refine w_get dX5_perform_81 f_X5_90 ha rfl ?_
    refine w_aload_n dX5_perform_84 rfl ?_
    refine w_get dX5_perform_85 f_X5_93 ha rfl ?_
    refine w_callVv dX5_perform_88 k_X5_110 (pm_X5_tryBox hb) rfl rfl (wg0 hb) rfl (Nat.le_of_ble_eq_true rfl) (Nat.le_of_ble_eq_true rfl) (Nat.le_of_ble_eq_true rfl) (rc00 (wlen hb) (Nat.le_refl 0)) ?_
    exact w_vret dX5_perform_91 rfl rfl (wlen hb) (Nat.le_refl 0)

set_option maxRecDepth 100000 in
set_option maxHeartbeats 4000000 in
theorem pm_X5_addSight {l : Launch} {D : va_G} {h : PH} {b : Nat} {S : WS} (hb : b + 8 < h.length) {q o : Int32} (hg : 0 ≤ wsg S) : PM l D YX5_addSight 1 [.ref b, .int q, .int o] (wput h b S) 0 0 (some (.int (b2i (decide (wsg S < 8))))) (wput h b (sAddS S q o)) := by
  refine pm_of2 (n0 := h.length) kb_YX5_addSight (wlen hb) [some (.ref b), some (.int q), some (.int o)] (fun _ => rfl) (fun _ => (Nat.le_of_ble_eq_true rfl)) ?_
  refine w_aload_n dX5_addSight_0 rfl ?_
  refine w_get dX5_addSight_1 f_X5_18 (wg0 hb) rfl ?_
  refine w_bipush (v := 8) dX5_addSight_4 (by decide) ?_
  refine w_icmp_lt (tgt := 11) dX5_addSight_6 (by decide) (fun c_6 => ?_) (fun c_6 => ?_)
  · skip
    refine w_aload_n dX5_addSight_11 rfl ?_
    refine w_get dX5_addSight_12 f_X5_46 (wg0 hb) rfl ?_
    refine w_aload_n dX5_addSight_15 rfl ?_
    refine w_get dX5_addSight_16 f_X5_18 (wg0 hb) rfl ?_
    refine w_iload_n dX5_addSight_19 rfl ?_
    refine w_aW8 dX5_addSight_20 hb (vin_soul (by simp [sSoul, *])) ?_
    refine w_aload_n dX5_addSight_21 rfl ?_
    refine w_dup dX5_addSight_22 rfl ?_
    refine w_get dX5_addSight_23 f_X5_21 (wg0 hb) rfl ?_
    refine w_iload_n dX5_addSight_26 rfl ?_
    refine w_tif_eq (a := ?a27_1) (b := ?b27_1) (pJ := 40) (tgt := 39) dX5_addSight_27 (by decide) (fun c_27 k => ?hA27_1) (fun c_27 k => ?hB27_1) ?hk27_1
    case hA27_1 =>
      refine w_iconst (v := 0) dX5_addSight_39 (by decide) ?_
      exact k
    case hB27_1 =>
      refine w_iconst (v := 1) dX5_addSight_30 (by decide) ?_
      refine w_aload_n dX5_addSight_31 rfl ?_
      refine w_get dX5_addSight_32 f_X5_18 (wg0 hb) rfl ?_
      refine w_ishl dX5_addSight_35 ?_
      refine w_goto (tgt := 40) dX5_addSight_36 (by decide) ?_
      exact k
    refine w_ior dX5_addSight_40 ?_
    refine w_pW3 dX5_addSight_41 f_X5_21 hb ?_
    refine w_aload_n dX5_addSight_44 rfl ?_
    refine w_dup dX5_addSight_45 rfl ?_
    refine w_get dX5_addSight_46 f_X5_18 (wg0 hb) rfl ?_
    refine w_iconst (v := 1) dX5_addSight_49 (by decide) ?_
    refine w_iadd dX5_addSight_50 ?_
    refine w_pW2 dX5_addSight_51 f_X5_18 hb ?_
    refine w_iconst (v := 1) dX5_addSight_54 (by decide) ?_
    exact w_zretb dX5_addSight_55 rfl (by simp [b2i, *]) (by simp only [sAddS, if_pos, if_neg, not_false_eq_true, *]; try rfl) (wlen hb) (Nat.le_refl 0)
  · skip
    refine w_iconst (v := 0) dX5_addSight_9 (by decide) ?_
    exact w_zretb dX5_addSight_10 rfl (by simp [b2i, *]) (by simp only [sAddS, if_pos, if_neg, not_false_eq_true, *]; try rfl) (wlen hb) (Nat.le_refl 0)

