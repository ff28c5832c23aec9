set_option maxRecDepth 100000 in
set_option maxHeartbeats 4000000 in
theorem pm_X6_image_none {l : Launch} {D : va_G} {N T : WS} {im : Nat → Option Nat} {ps mo op : Nat → Int32} {pn ta tb tw tp tn ka kf ks kc tot : Int32} {t : PH} {k : Nat} (hk : k < 2) (him : im k = none) {q : Nat} (hq : t.length + 28 = q) : PM l D YX6_image 2 [.ref 0, .int (nI k)] (XH N im ps pn T ta tb tw tp tn ka kf ks kc mo op tot t) 9 126 (some (.int 1)) (XH N (va_up im k (some q)) ps pn T ta tb tw tp tn ka kf ks kc mo op tot (t ++ wc q (sCpy w0 N))) := by
  refine pm_of2 (n0 := (t.length + 28)) kb_YX6_image rfl [some (.ref 0), some (.int (nI k)), none] (fun _ => rfl) (fun _ => (Nat.le_of_ble_eq_true rfl)) ?_
  refine w_iload_n dX6_image_0 rfl ?_
  refine w_iconst (v := 0) dX6_image_1 (by decide) ?_
  refine w_iconst (v := 1) dX6_image_2 (by decide) ?_
  refine w_callSr dX6_image_3 k_X6_52 (pm_X6_isWithin) rfl rfl (Nat.le_of_ble_eq_true rfl) (Nat.le_of_ble_eq_true rfl) (Nat.le_of_ble_eq_true rfl) ⟨by show t.length + 28 - (t.length + 28) + 0 ≤ 9; omega, by decide⟩ ?_
  refine w_zif_ne_t (tgt := 12) dX6_image_6 (by decide) (in01 hk) ?_
  refine w_aload_n dX6_image_12 rfl ?_
  refine w_get dX6_image_13 f_X6_16 rfl rfl ?_
  refine w_iload_n dX6_image_16 rfl ?_
  refine w_aald dX6_image_17 rfl (vp_in_nI (by omega) (by decide)) ?_
  rw [nI_clamp (show k < 2 ^ 31 by omega), him]
  change Wp _ _ _ _ _ _ _ _ _ [.null] _ _
  refine w_astoreN_2 dX6_image_18 (Nat.le_of_ble_eq_true rfl) rfl ?_
  refine w_aload_nN dX6_image_19 rfl ?_
  refine w_ifnonnullN dX6_image_20 ?_
  refine w_new (q := q) dX6_image_23 n_X6_7 (fun _ => rfl) hq (by have h9 : (pRm 2 9 126).cells = 9 := rfl; omega) (by decide) ?_
  refine w_dup dX6_image_26 rfl ?_
  refine w_callI dX6_image_27 k_X6_9 (pm_X5_init (h0 := (XH N im ps pn T ta tb tw tp tn ka kf ks kc mo op tot t)) (q := q) hq) rfl rfl (Nat.le_of_ble_eq_true rfl) (Nat.le_of_ble_eq_true rfl) (Nat.le_of_ble_eq_true rfl) ⟨by rw [List.length_append, xlen, List.length_singleton]; have h9 : (pRm 2 9 126).cells = 9 := rfl; omega, by decide⟩ ?_
  refine w_heq (h2 := (XH N im ps pn T ta tb tw tp tn ka kf ks kc mo op tot (t ++ (wc q w0 ++ [])))) rfl ?_
  refine w_astore_2 dX6_image_30 (Nat.le_of_ble_eq_true rfl) rfl ?_
  refine w_aload_n dX6_image_31 rfl ?_
  refine w_get dX6_image_32 f_X6_16 rfl rfl ?_
  refine w_iload_n dX6_image_35 rfl ?_
  refine w_aload_n dX6_image_36 rfl ?_
  have hc1 := fun im => tat (N := N) (T := T) (im := im) (ps := ps) (mo := mo) (op := op) (pn := pn) (ta := ta) (tb := tb) (tw := tw) (tp := tp) (tn := tn) (ka := ka) (kf := kf) (ks := ks) (kc := kc) (tot := tot) (t1 := t) (t2 := []) (b := q) (S := w0) (k := 0) (c := wobj q w0) hq (by decide) rfl
  refine w_aast dX6_image_37 rfl (hc1 im) (vp_in_nI (by omega) (by decide)) ?_
  rw [nI_clamp (show k < 2 ^ 31 by omega)]
  refine w_heq (h2 := (XH N (va_up im k (some q)) ps pn T ta tb tw tp tn ka kf ks kc mo op tot (t ++ (wc q w0 ++ [])))) rfl ?_
  refine w_aload_n dX6_image_38 rfl ?_
  refine w_aload_n dX6_image_39 rfl ?_
  refine w_get dX6_image_40 f_X6_10 rfl rfl ?_
  have hM := fun im => xI_copyFrom (l := l) (D := D) (N := N) (T := T) (im := im) (ps := ps) (mo := mo) (op := op) (pn := pn) (ta := ta) (tb := tb) (tw := tw) (tp := tp) (tn := tn) (ka := ka) (kf := kf) (ks := ks) (kc := kc) (tot := tot) (t1 := t) (t2 := []) (b := q) (S := w0) hq
  have hrc : (XH N (va_up im k (some q)) ps pn T ta tb tw tp tn ka kf ks kc mo op tot (t ++ (wc q w0 ++ []))).length - (t.length + 28) + 0 ≤ (pRm 2 9 126).cells ∧ 0 + 12 + 114 + 0 ≤ (pRm 2 9 126).slots := by
    refine ⟨?_, by decide⟩
    rw [xlen, List.append_nil, List.length_append, show (wc q w0).length = 9 from rfl]
    have h9 : (pRm 2 9 126).cells = 9 := rfl
    omega
  refine w_callVv dX6_image_43 k_X6_110 (hM _) rfl rfl (hc1 _) rfl (Nat.le_of_ble_eq_true rfl) (Nat.le_of_ble_eq_true rfl) (Nat.le_of_ble_eq_true rfl) hrc ?_
  refine w_iconst (v := 1) dX6_image_46 (by decide) ?_
  refine w_iret dX6_image_47 rfl rfl ?_ ?_ (by decide)
  · rw [List.append_nil]
  · rw [xlen, List.append_nil, List.length_append, show (wc q (sCpy w0 N)).length = 9 from rfl]; try omega
