theorem bar_n {P : Prop} [Decidable P] (h : ¬ P) : ¬ (0 : Int32) ≤ (if P then 0 else -5) := by rw [if_neg h]; decide
theorem bar_a {P : Prop} [Decidable P] (h : P) : (0 : Int32) ≤ (if P then 0 else -5) := by rw [if_pos h]; decide
set_option maxRecDepth 100000 in
set_option maxHeartbeats 1000000 in
theorem pm_X7_done_f {l : Launch} {D : va_G} {h : PH} {M : MS} (hb : 38 < h.length) {c : Nat} (hc : c ≤ 60) (hs : msn M = nI c) {N : WS} (hW : RW N M) (hf : ¬ mfgo (mpd M) c 0 0 = -6) : PM l D YX7_done 6 [.ref 28] (mput h M) 0 0 (some (.int (-5))) (mput h M) := by
  refine pm_of2 (n0 := h.length) kb_YX7_done (mlen hb) [some (.ref 28), none] (fun _ => rfl) (fun _ => (Nat.le_of_ble_eq_true rfl)) ?_
  refine w_aload_n dX7_done_0 rfl ?_
  refine w_callVr dX7_done_1 k_X7_114 (pm_X7_bar_f hb hc hs hW hf) rfl rfl (mg0 hb) rfl (Nat.le_of_ble_eq_true rfl) (Nat.le_of_ble_eq_true rfl) (Nat.le_of_ble_eq_true rfl) (rc00 (mlen hb) (Nat.le_refl 0)) ?_
  refine w_if_ge_f dX7_done_4 ⟨10, by decide⟩ (by decide) ?_
  refine w_bipush (v := (-5)) dX7_done_7 (by decide) ?_
  exact w_iret dX7_done_9 rfl rfl rfl (mlen hb) (Nat.le_refl 0)

set_option maxRecDepth 100000 in
set_option maxHeartbeats 1000000 in
theorem pm_X7_done_n {l : Launch} {D : va_G} {h : PH} {M : MS} (hb : 38 < h.length) {c : Nat} (hc : c ≤ 60) (hs : msn M = nI c) {N : WS} (hW : RW N M) (hf : mfgo (mpd M) c 0 0 = -6) (hg : ¬ (gyR N M c).1 < 0) : PM l D YX7_done 6 [.ref 28] (mput h M) 0 0 (some (.int (-5))) (mput h (gyR N M c).2) := by
  refine pm_of2 (n0 := h.length) kb_YX7_done (mlen hb) [some (.ref 28), none] (fun _ => rfl) (fun _ => (Nat.le_of_ble_eq_true rfl)) ?_
  refine w_aload_n dX7_done_0 rfl ?_
  refine w_callVr dX7_done_1 k_X7_114 (pm_X7_bar_a hb hc hs hW hf) rfl rfl (mg0 hb) rfl (Nat.le_of_ble_eq_true rfl) (Nat.le_of_ble_eq_true rfl) (Nat.le_of_ble_eq_true rfl) (rc00 (mlen hb) (Nat.le_refl 0)) ?_
  refine w_if_ge_f dX7_done_4 ⟨10, by decide⟩ (bar_n hg) ?_
  refine w_bipush (v := (-5)) dX7_done_7 (by decide) ?_
  exact w_iret dX7_done_9 rfl rfl rfl (mlen hb) (Nat.le_refl 0)

set_option maxRecDepth 100000 in
set_option maxHeartbeats 1000000 in
theorem pm_X7_done_a {l : Launch} {D : va_G} {h : PH} {M : MS} (hb : 38 < h.length) {c : Nat} (hc : c ≤ 60) (hs : msn M = nI c) {N : WS} (hW : RW N M) (hf : mfgo (mpd M) c 0 0 = -6) (hg : (gyR N M c).1 < 0) : PM l D YX7_done 6 [.ref 28] (mput h M) 0 0 (some (.int (mac (gyR N M c).2))) (mput h (tsn (tbk (gyR N M c).2 (asN (mnw (gyR N M c).2) (mbk (gyR N M c).2) 96)) 0)) := by
  refine pm_of2 (n0 := h.length) kb_YX7_done (mlen hb) [some (.ref 28), none] (fun _ => rfl) (fun _ => (Nat.le_of_ble_eq_true rfl)) ?_
  have body : ∀ Q : MS, Q = (gyR N M c).2 → Wp l D YX7_done (pRm 6 0 0) h.length (fun _ _ _ => True) (mE D h.length 0 0 (some (.int (mac (gyR N M c).2))) (mput h (tsn (tbk (gyR N M c).2 (asN (mnw (gyR N M c).2) (mbk (gyR N M c).2) 96)) 0))) 10 [some (.ref 28), none] [] (mput h Q) 0 := by
    intro Q hQ
    have loop : ∀ (k i : Nat), i + k = 96 → Wp l D YX7_done (pRm 6 0 0) h.length (fun _ _ _ => True) (mE D h.length 0 0 (some (.int (mac (gyR N M c).2))) (mput h (tsn (tbk (gyR N M c).2 (asN (mnw (gyR N M c).2) (mbk (gyR N M c).2) 96)) 0))) 12 [some (.ref 28), some (.int (nI i))] [] (mput h (tbk Q (asN (mnw Q) (mbk Q) i))) 0 := by
      intro k
      induction k with
      | zero =>
        intro i hi
        have hi : i = 96 := by omega
        subst hi
        refine w_iload_n dX7_done_12 rfl ?_
        refine w_bipush (v := 96) dX7_done_13 (by decide) ?_
        refine w_icmp_ge_t (tgt := 36) dX7_done_15 (by decide) (Int32.le_refl _) ?_
        refine w_aload_n dX7_done_36 rfl ?_
        refine w_iconst (v := 0) dX7_done_37 (by decide) ?_
        refine w_pM6 dX7_done_38 f_X7_60 hb ?_
        refine w_aload_n dX7_done_41 rfl ?_
        refine w_get dX7_done_42 f_X7_91 (mg0 hb) rfl ?_
        exact w_iret dX7_done_45 rfl (by rw [← hQ]; rfl) (by rw [hQ]) (mlen hb) (Nat.le_refl 0)
      | succ k ih =>
        intro i hi
        refine w_iload_n dX7_done_12 rfl ?_
        refine w_bipush (v := 96) dX7_done_13 (by decide) ?_
        refine w_icmp_ge_f dX7_done_15 ⟨36, by decide⟩ (lp_g hi (by decide) rfl) ?_
        refine w_aload_n dX7_done_18 rfl ?_
        refine w_get dX7_done_19 f_X7_7 (mg0 hb) rfl ?_
        refine w_iload_n dX7_done_22 rfl ?_
        refine w_aload_n dX7_done_23 rfl ?_
        refine w_get dX7_done_24 f_X7_13 (mg0 hb) rfl ?_
        refine w_iload_n dX7_done_27 rfl ?_
        refine w_ialdN (k := i) dX7_done_28 (mg_nw hb) rfl (by omega) (kk := ?_)
        refine w_aMn_bk (k := i) dX7_done_29 hb rfl (by omega) ?_
        refine w_iinc_1 (v := 1) dX7_done_30 (by decide) (Nat.le_of_ble_eq_true rfl) rfl ?_
        refine w_goto (tgt := 12) dX7_done_33 (by decide) ?_
        exact w_loc_1 (nI_1 i) (ih (i + 1) (by omega))
    refine w_iconst (v := 0) dX7_done_10 (by decide) ?_
    refine w_istore_1 dX7_done_11 (Nat.le_of_ble_eq_true rfl) rfl ?_
    exact loop 96 0 rfl
  refine w_aload_n dX7_done_0 rfl ?_
  refine w_callVr dX7_done_1 k_X7_114 (pm_X7_bar_a hb hc hs hW hf) rfl rfl (mg0 hb) rfl (Nat.le_of_ble_eq_true rfl) (Nat.le_of_ble_eq_true rfl) (Nat.le_of_ble_eq_true rfl) (rc00 (mlen hb) (Nat.le_refl 0)) ?_
  refine w_if_ge_t (tgt := 10) dX7_done_4 (by decide) (bar_a hg) ?_
  exact body _ rfl

set_option maxRecDepth 100000 in
set_option maxHeartbeats 1000000 in
theorem pm_X7_behind_r {l : Launch} {D : va_G} {h : PH} {M : MS} (hb : 38 < h.length) {s w : Int32} (hn : (sSoul s && sIn w 0 3) = false) : PM l D YX7_behind 6 [.ref 28, .int s, .int w] (mput h M) 0 0 (some (.int (if sSoul s then -2 else -1))) (mput h M) := by
  refine pm_of2 (n0 := h.length) kb_YX7_behind (mlen hb) [some (.ref 28), some (.int s), some (.int w)] (fun _ => rfl) (fun _ => (Nat.le_of_ble_eq_true rfl)) ?_
  refine w_iload_n dX7_behind_0 rfl ?_
  refine w_callSr dX7_behind_1 k_X7_45 (pm_X7_isSoul) rfl rfl (Nat.le_of_ble_eq_true rfl) (Nat.le_of_ble_eq_true rfl) (Nat.le_of_ble_eq_true rfl) (rc00 (mlen hb) (Nat.le_refl 0)) ?_
  refine w_zif_ne (tgt := 9) dX7_behind_4 (by decide) (fun c_4 => ?_) (fun c_4 => ?_)
  · skip
    refine w_iload_n dX7_behind_9 rfl ?_
    refine w_iconst (v := 0) dX7_behind_10 (by decide) ?_
    refine w_iconst (v := 3) dX7_behind_11 (by decide) ?_
    refine w_callSr dX7_behind_12 k_X7_41 (pm_X7_in) rfl rfl (Nat.le_of_ble_eq_true rfl) (Nat.le_of_ble_eq_true rfl) (Nat.le_of_ble_eq_true rfl) (rc00 (mlen hb) (Nat.le_refl 0)) ?_
    refine w_zif_ne (tgt := 21) dX7_behind_15 (by decide) (fun c_15 => ?_) (fun c_15 => ?_)
    · skip
      simp only [*, Bool.and_self] at hn
      cases hn
    · skip
      refine w_bipush (v := (-2)) dX7_behind_18 (by decide) ?_
      exact w_iret dX7_behind_20 rfl (by simp only [if_pos, if_neg, not_false_eq_true, if_true, if_false, Bool.false_eq_true, c_4, c_15]) rfl (mlen hb) (Nat.le_refl 0)
  · skip
    refine w_iconst (v := (-1)) dX7_behind_7 (by decide) ?_
    exact w_iret dX7_behind_8 rfl (by simp only [if_pos, if_neg, not_false_eq_true, if_true, if_false, Bool.false_eq_true, c_4]) rfl (mlen hb) (Nat.le_refl 0)

set_option maxRecDepth 100000 in
set_option maxHeartbeats 1000000 in
theorem pm_X7_behind_f {l : Launch} {D : va_G} {h : PH} {M : MS} (hb : 38 < h.length) {c : Nat} (hc : c ≤ 60) (hs : msn M = nI c) {N : WS} (hW : RW N M) (hf : ¬ mfgo (mpd M) c 0 0 = -6) {s w : Int32} (h1 : sSoul s = true) (h2 : sIn w 0 3 = true) : PM l D YX7_behind 6 [.ref 28, .int s, .int w] (mput h M) 0 0 (some (.int (-5))) (mput h M) := by
  refine pm_of2 (n0 := h.length) kb_YX7_behind (mlen hb) [some (.ref 28), some (.int s), some (.int w)] (fun _ => rfl) (fun _ => (Nat.le_of_ble_eq_true rfl)) ?_
  refine w_iload_n dX7_behind_0 rfl ?_
  refine w_callSr dX7_behind_1 k_X7_45 (pm_X7_isSoul) rfl rfl (Nat.le_of_ble_eq_true rfl) (Nat.le_of_ble_eq_true rfl) (Nat.le_of_ble_eq_true rfl) (rc00 (mlen hb) (Nat.le_refl 0)) ?_
  refine w_zif_ne_t (tgt := 9) dX7_behind_4 (by decide) h1 ?_
  refine w_iload_n dX7_behind_9 rfl ?_
  refine w_iconst (v := 0) dX7_behind_10 (by decide) ?_
  refine w_iconst (v := 3) dX7_behind_11 (by decide) ?_
  refine w_callSr dX7_behind_12 k_X7_41 (pm_X7_in) rfl rfl (Nat.le_of_ble_eq_true rfl) (Nat.le_of_ble_eq_true rfl) (Nat.le_of_ble_eq_true rfl) (rc00 (mlen hb) (Nat.le_refl 0)) ?_
  refine w_zif_ne_t (tgt := 21) dX7_behind_15 (by decide) h2 ?_
  refine w_aload_n dX7_behind_21 rfl ?_
  refine w_callVr dX7_behind_22 k_X7_114 (pm_X7_bar_f hb hc hs hW hf) rfl rfl (mg0 hb) rfl (Nat.le_of_ble_eq_true rfl) (Nat.le_of_ble_eq_true rfl) (Nat.le_of_ble_eq_true rfl) (rc00 (mlen hb) (Nat.le_refl 0)) ?_
  refine w_if_ge_f dX7_behind_25 ⟨31, by decide⟩ (by decide) ?_
  refine w_bipush (v := (-5)) dX7_behind_28 (by decide) ?_
  exact w_iret dX7_behind_30 rfl rfl rfl (mlen hb) (Nat.le_refl 0)

set_option maxRecDepth 100000 in
set_option maxHeartbeats 1000000 in
theorem pm_X7_behind_n {l : Launch} {D : va_G} {h : PH} {M : MS} (hb : 38 < h.length) {c : Nat} (hc : c ≤ 60) (hs : msn M = nI c) {N : WS} (hW : RW N M) (hf : mfgo (mpd M) c 0 0 = -6) (hg : ¬ (gyR N M c).1 < 0) {s w : Int32} (h1 : sSoul s = true) (h2 : sIn w 0 3 = true) : PM l D YX7_behind 6 [.ref 28, .int s, .int w] (mput h M) 0 0 (some (.int (-5))) (mput h (gyR N M c).2) := by
  refine pm_of2 (n0 := h.length) kb_YX7_behind (mlen hb) [some (.ref 28), some (.int s), some (.int w)] (fun _ => rfl) (fun _ => (Nat.le_of_ble_eq_true rfl)) ?_
  refine w_iload_n dX7_behind_0 rfl ?_
  refine w_callSr dX7_behind_1 k_X7_45 (pm_X7_isSoul) rfl rfl (Nat.le_of_ble_eq_true rfl) (Nat.le_of_ble_eq_true rfl) (Nat.le_of_ble_eq_true rfl) (rc00 (mlen hb) (Nat.le_refl 0)) ?_
  refine w_zif_ne_t (tgt := 9) dX7_behind_4 (by decide) h1 ?_
  refine w_iload_n dX7_behind_9 rfl ?_
  refine w_iconst (v := 0) dX7_behind_10 (by decide) ?_
  refine w_iconst (v := 3) dX7_behind_11 (by decide) ?_
  refine w_callSr dX7_behind_12 k_X7_41 (pm_X7_in) rfl rfl (Nat.le_of_ble_eq_true rfl) (Nat.le_of_ble_eq_true rfl) (Nat.le_of_ble_eq_true rfl) (rc00 (mlen hb) (Nat.le_refl 0)) ?_
  refine w_zif_ne_t (tgt := 21) dX7_behind_15 (by decide) h2 ?_
  refine w_aload_n dX7_behind_21 rfl ?_
  refine w_callVr dX7_behind_22 k_X7_114 (pm_X7_bar_a hb hc hs hW hf) rfl rfl (mg0 hb) rfl (Nat.le_of_ble_eq_true rfl) (Nat.le_of_ble_eq_true rfl) (Nat.le_of_ble_eq_true rfl) (rc00 (mlen hb) (Nat.le_refl 0)) ?_
  refine w_if_ge_f dX7_behind_25 ⟨31, by decide⟩ (bar_n hg) ?_
  refine w_bipush (v := (-5)) dX7_behind_28 (by decide) ?_
  exact w_iret dX7_behind_30 rfl rfl rfl (mlen hb) (Nat.le_refl 0)

def mBeV (b : Nat → Int32) (i : Nat) (w : Int32) : Int32 := if w = 0 then (b 94 >>> (nI i &&& 31)) &&& 1 else if w = 1 then b i else if w = 2 then b (8 + i) else b (16 + i)
set_option maxRecDepth 100000 in
set_option maxHeartbeats 1000000 in
theorem pm_X7_behind_a {l : Launch} {D : va_G} {h : PH} {M : MS} (hb : 38 < h.length) {c : Nat} (hc : c ≤ 60) (hs : msn M = nI c) {N : WS} (hW : RW N M) (hf : mfgo (mpd M) c 0 0 = -6) (hg : (gyR N M c).1 < 0) {i : Nat} {w : Int32} (hi : i < 8) (h2 : sIn w 0 3 = true) : PM l D YX7_behind 6 [.ref 28, .int (nI i), .int w] (mput h M) 0 0 (some (.int (mBeV (mnw (gyR N M c).2) i w))) (mput h (gyR N M c).2) := by
  refine pm_of2 (n0 := h.length) kb_YX7_behind (mlen hb) [some (.ref 28), some (.int (nI i)), some (.int w)] (fun _ => rfl) (fun _ => (Nat.le_of_ble_eq_true rfl)) ?_
  have body : ∀ Q : MS, Q = (gyR N M c).2 → Wp l D YX7_behind (pRm 6 0 0) h.length (fun _ _ _ => True) (mE D h.length 0 0 (some (.int (mBeV (mnw (gyR N M c).2) i w))) (mput h (gyR N M c).2)) 31 [some (.ref 28), some (.int (nI i)), some (.int w)] [] (mput h Q) 0 := by
    intro Q hQ
    rcases in03 h2 with rfl | rfl | rfl | rfl
    · skip
      refine w_iload_n dX7_behind_31 rfl ?_
      refine w_if_ne_f dX7_behind_32 ⟨49, by decide⟩ rfl ?_
      refine w_aload_n dX7_behind_35 rfl ?_
      refine w_get dX7_behind_36 f_X7_13 (mg0 hb) rfl ?_
      refine w_bipush (v := 94) dX7_behind_39 (by decide) ?_
      refine w_ialdN (k := 94) dX7_behind_41 (mg_nw hb) rfl (by omega) (kk := ?_)
      refine w_iload_n dX7_behind_42 rfl ?_
      refine w_ishr dX7_behind_43 ?_
      refine w_iconst (v := 1) dX7_behind_44 (by decide) ?_
      refine w_iand dX7_behind_45 ?_
      refine w_goto (tgt := 63) dX7_behind_46 (by decide) ?_
      exact w_iret dX7_behind_63 rfl (by rw [← hQ]; exact (show _ = mBeV (mnw Q) i 0 by rw [mBeV]; rfl)) (by rw [hQ]) (mlen hb) (Nat.le_refl 0)
    · skip
      refine w_iload_n dX7_behind_31 rfl ?_
      refine w_if_ne_t (tgt := 49) dX7_behind_32 (by decide) (by decide) ?_
      refine w_aload_n dX7_behind_49 rfl ?_
      refine w_get dX7_behind_50 f_X7_13 (mg0 hb) rfl ?_
      refine w_bipush (v := 8) dX7_behind_53 (by decide) ?_
      refine w_iload_n dX7_behind_55 rfl ?_
      refine w_imul dX7_behind_56 ?_
      refine w_bipush (v := 8) dX7_behind_57 (by decide) ?_
      refine w_isub dX7_behind_59 ?_
      refine w_top (y := nI 0) (by decide) ?_
      refine w_iload_n dX7_behind_60 rfl ?_
      refine w_iadd dX7_behind_61 ?_
      refine w_ialdN (k := (0 + i)) dX7_behind_62 (mg_nw hb) (nadd rfl rfl) (by omega) (kk := ?_)
      exact w_iret dX7_behind_63 rfl (by rw [← hQ]; show mnw Q (0 + i) = _; rw [Nat.zero_add]; rfl) (by rw [hQ]) (mlen hb) (Nat.le_refl 0)
    · skip
      refine w_iload_n dX7_behind_31 rfl ?_
      refine w_if_ne_t (tgt := 49) dX7_behind_32 (by decide) (by decide) ?_
      refine w_aload_n dX7_behind_49 rfl ?_
      refine w_get dX7_behind_50 f_X7_13 (mg0 hb) rfl ?_
      refine w_bipush (v := 8) dX7_behind_53 (by decide) ?_
      refine w_iload_n dX7_behind_55 rfl ?_
      refine w_imul dX7_behind_56 ?_
      refine w_bipush (v := 8) dX7_behind_57 (by decide) ?_
      refine w_isub dX7_behind_59 ?_
      refine w_top (y := nI 8) (by decide) ?_
      refine w_iload_n dX7_behind_60 rfl ?_
      refine w_iadd dX7_behind_61 ?_
      refine w_ialdN (k := (8 + i)) dX7_behind_62 (mg_nw hb) (nadd rfl rfl) (by omega) (kk := ?_)
      exact w_iret dX7_behind_63 rfl (by rw [← hQ]; show mnw Q (8 + i) = _; rfl) (by rw [hQ]) (mlen hb) (Nat.le_refl 0)
    · skip
      refine w_iload_n dX7_behind_31 rfl ?_
      refine w_if_ne_t (tgt := 49) dX7_behind_32 (by decide) (by decide) ?_
      refine w_aload_n dX7_behind_49 rfl ?_
      refine w_get dX7_behind_50 f_X7_13 (mg0 hb) rfl ?_
      refine w_bipush (v := 8) dX7_behind_53 (by decide) ?_
      refine w_iload_n dX7_behind_55 rfl ?_
      refine w_imul dX7_behind_56 ?_
      refine w_bipush (v := 8) dX7_behind_57 (by decide) ?_
      refine w_isub dX7_behind_59 ?_
      refine w_top (y := nI 16) (by decide) ?_
      refine w_iload_n dX7_behind_60 rfl ?_
      refine w_iadd dX7_behind_61 ?_
      refine w_ialdN (k := (16 + i)) dX7_behind_62 (mg_nw hb) (nadd rfl rfl) (by omega) (kk := ?_)
      exact w_iret dX7_behind_63 rfl (by rw [← hQ]; show mnw Q (16 + i) = _; rfl) (by rw [hQ]) (mlen hb) (Nat.le_refl 0)
  refine w_iload_n dX7_behind_0 rfl ?_
  refine w_callSr dX7_behind_1 k_X7_45 (pm_X7_isSoul) rfl rfl (Nat.le_of_ble_eq_true rfl) (Nat.le_of_ble_eq_true rfl) (Nat.le_of_ble_eq_true rfl) (rc00 (mlen hb) (Nat.le_refl 0)) ?_
  refine w_zif_ne_t (tgt := 9) dX7_behind_4 (by decide) (soul_of hi) ?_
  refine w_iload_n dX7_behind_9 rfl ?_
  refine w_iconst (v := 0) dX7_behind_10 (by decide) ?_
  refine w_iconst (v := 3) dX7_behind_11 (by decide) ?_
  refine w_callSr dX7_behind_12 k_X7_41 (pm_X7_in) rfl rfl (Nat.le_of_ble_eq_true rfl) (Nat.le_of_ble_eq_true rfl) (Nat.le_of_ble_eq_true rfl) (rc00 (mlen hb) (Nat.le_refl 0)) ?_
  refine w_zif_ne_t (tgt := 21) dX7_behind_15 (by decide) h2 ?_
  refine w_aload_n dX7_behind_21 rfl ?_
  refine w_callVr dX7_behind_22 k_X7_114 (pm_X7_bar_a hb hc hs hW hf) rfl rfl (mg0 hb) rfl (Nat.le_of_ble_eq_true rfl) (Nat.le_of_ble_eq_true rfl) (Nat.le_of_ble_eq_true rfl) (rc00 (mlen hb) (Nat.le_refl 0)) ?_
  refine w_if_ge_t (tgt := 31) dX7_behind_25 (by decide) (bar_a hg) ?_
  exact body _ rfl

set_option maxRecDepth 100000 in
set_option maxHeartbeats 1000000 in
theorem pm_X7_then_r {l : Launch} {D : va_G} {h : PH} {M : MS} (hb : 38 < h.length) {w : Int32} (hn : sIn w 0 3 = false) : PM l D YX7_then 6 [.ref 28, .int w] (mput h M) 0 0 (some (.int (-2))) (mput h M) := by
  refine pm_of2 (n0 := h.length) kb_YX7_then (mlen hb) [some (.ref 28), some (.int w)] (fun _ => rfl) (fun _ => (Nat.le_of_ble_eq_true rfl)) ?_
  refine w_iload_n dX7_then_0 rfl ?_
  refine w_iconst (v := 0) dX7_then_1 (by decide) ?_
  refine w_iconst (v := 3) dX7_then_2 (by decide) ?_
  refine w_callSr dX7_then_3 k_X7_41 (pm_X7_in) rfl rfl (Nat.le_of_ble_eq_true rfl) (Nat.le_of_ble_eq_true rfl) (Nat.le_of_ble_eq_true rfl) (rc00 (mlen hb) (Nat.le_refl 0)) ?_
  refine w_zif_ne_f dX7_then_6 ⟨12, by decide⟩ hn ?_
  refine w_bipush (v := (-2)) dX7_then_9 (by decide) ?_
  exact w_iret dX7_then_11 rfl rfl rfl (mlen hb) (Nat.le_refl 0)

set_option maxRecDepth 100000 in
set_option maxHeartbeats 1000000 in
theorem pm_X7_then_f {l : Launch} {D : va_G} {h : PH} {M : MS} (hb : 38 < h.length) {c : Nat} (hc : c ≤ 60) (hs : msn M = nI c) {N : WS} (hW : RW N M) (hf : ¬ mfgo (mpd M) c 0 0 = -6) {w : Int32} (h2 : sIn w 0 3 = true) : PM l D YX7_then 6 [.ref 28, .int w] (mput h M) 0 0 (some (.int (-5))) (mput h M) := by
  refine pm_of2 (n0 := h.length) kb_YX7_then (mlen hb) [some (.ref 28), some (.int w)] (fun _ => rfl) (fun _ => (Nat.le_of_ble_eq_true rfl)) ?_
  refine w_iload_n dX7_then_0 rfl ?_
  refine w_iconst (v := 0) dX7_then_1 (by decide) ?_
  refine w_iconst (v := 3) dX7_then_2 (by decide) ?_
  refine w_callSr dX7_then_3 k_X7_41 (pm_X7_in) rfl rfl (Nat.le_of_ble_eq_true rfl) (Nat.le_of_ble_eq_true rfl) (Nat.le_of_ble_eq_true rfl) (rc00 (mlen hb) (Nat.le_refl 0)) ?_
  refine w_zif_ne_t (tgt := 12) dX7_then_6 (by decide) h2 ?_
  refine w_aload_n dX7_then_12 rfl ?_
  refine w_callVr dX7_then_13 k_X7_114 (pm_X7_bar_f hb hc hs hW hf) rfl rfl (mg0 hb) rfl (Nat.le_of_ble_eq_true rfl) (Nat.le_of_ble_eq_true rfl) (Nat.le_of_ble_eq_true rfl) (rc00 (mlen hb) (Nat.le_refl 0)) ?_
  refine w_if_ge_f dX7_then_16 ⟨22, by decide⟩ (by decide) ?_
  refine w_bipush (v := (-5)) dX7_then_19 (by decide) ?_
  exact w_iret dX7_then_21 rfl rfl rfl (mlen hb) (Nat.le_refl 0)

set_option maxRecDepth 100000 in
set_option maxHeartbeats 1000000 in
theorem pm_X7_then_n {l : Launch} {D : va_G} {h : PH} {M : MS} (hb : 38 < h.length) {c : Nat} (hc : c ≤ 60) (hs : msn M = nI c) {N : WS} (hW : RW N M) (hf : mfgo (mpd M) c 0 0 = -6) (hg : ¬ (gyR N M c).1 < 0) {w : Int32} (h2 : sIn w 0 3 = true) : PM l D YX7_then 6 [.ref 28, .int w] (mput h M) 0 0 (some (.int (-5))) (mput h (gyR N M c).2) := by
  refine pm_of2 (n0 := h.length) kb_YX7_then (mlen hb) [some (.ref 28), some (.int w)] (fun _ => rfl) (fun _ => (Nat.le_of_ble_eq_true rfl)) ?_
  refine w_iload_n dX7_then_0 rfl ?_
  refine w_iconst (v := 0) dX7_then_1 (by decide) ?_
  refine w_iconst (v := 3) dX7_then_2 (by decide) ?_
  refine w_callSr dX7_then_3 k_X7_41 (pm_X7_in) rfl rfl (Nat.le_of_ble_eq_true rfl) (Nat.le_of_ble_eq_true rfl) (Nat.le_of_ble_eq_true rfl) (rc00 (mlen hb) (Nat.le_refl 0)) ?_
  refine w_zif_ne_t (tgt := 12) dX7_then_6 (by decide) h2 ?_
  refine w_aload_n dX7_then_12 rfl ?_
  refine w_callVr dX7_then_13 k_X7_114 (pm_X7_bar_a hb hc hs hW hf) rfl rfl (mg0 hb) rfl (Nat.le_of_ble_eq_true rfl) (Nat.le_of_ble_eq_true rfl) (Nat.le_of_ble_eq_true rfl) (rc00 (mlen hb) (Nat.le_refl 0)) ?_
  refine w_if_ge_f dX7_then_16 ⟨22, by decide⟩ (bar_n hg) ?_
  refine w_bipush (v := (-5)) dX7_then_19 (by decide) ?_
  exact w_iret dX7_then_21 rfl rfl rfl (mlen hb) (Nat.le_refl 0)

def mThV (Q : MS) (w : Int32) : Int32 := if w = 0 then mnw Q 94 else if w = 1 then mnw Q 95 else if w = 2 then mon Q else mot Q
set_option maxRecDepth 100000 in
set_option maxHeartbeats 1000000 in
theorem pm_X7_then_a {l : Launch} {D : va_G} {h : PH} {M : MS} (hb : 38 < h.length) {c : Nat} (hc : c ≤ 60) (hs : msn M = nI c) {N : WS} (hW : RW N M) (hf : mfgo (mpd M) c 0 0 = -6) (hg : (gyR N M c).1 < 0) {w : Int32} (h2 : sIn w 0 3 = true) : PM l D YX7_then 6 [.ref 28, .int w] (mput h M) 0 0 (some (.int (mThV (gyR N M c).2 w))) (mput h (gyR N M c).2) := by
  refine pm_of2 (n0 := h.length) kb_YX7_then (mlen hb) [some (.ref 28), some (.int w)] (fun _ => rfl) (fun _ => (Nat.le_of_ble_eq_true rfl)) ?_
  have body : ∀ Q : MS, Q = (gyR N M c).2 → Wp l D YX7_then (pRm 6 0 0) h.length (fun _ _ _ => True) (mE D h.length 0 0 (some (.int (mThV (gyR N M c).2 w))) (mput h (gyR N M c).2)) 22 [some (.ref 28), some (.int w)] [] (mput h Q) 0 := by
    intro Q hQ
    rcases in03 h2 with rfl | rfl | rfl | rfl
    · skip
      refine w_iload_n dX7_then_22 rfl ?_
      refine w_iconst (v := 2) dX7_then_23 (by decide) ?_
      refine w_icmp_ge_f dX7_then_24 ⟨39, by decide⟩ (by decide) ?_
      refine w_aload_n dX7_then_27 rfl ?_
      refine w_get dX7_then_28 f_X7_13 (mg0 hb) rfl ?_
      refine w_bipush (v := 94) dX7_then_31 (by decide) ?_
      refine w_iload_n dX7_then_33 rfl ?_
      refine w_iadd dX7_then_34 ?_
      refine w_ialdN (k := (94 + 0)) dX7_then_35 (mg_nw hb) (nadd rfl rfl) (by omega) (kk := ?_)
      refine w_goto (tgt := 55) dX7_then_36 (by decide) ?_
      exact w_iret dX7_then_55 rfl (by rw [← hQ]; rfl) (by rw [hQ]) (mlen hb) (Nat.le_refl 0)
    · skip
      refine w_iload_n dX7_then_22 rfl ?_
      refine w_iconst (v := 2) dX7_then_23 (by decide) ?_
      refine w_icmp_ge_f dX7_then_24 ⟨39, by decide⟩ (by decide) ?_
      refine w_aload_n dX7_then_27 rfl ?_
      refine w_get dX7_then_28 f_X7_13 (mg0 hb) rfl ?_
      refine w_bipush (v := 94) dX7_then_31 (by decide) ?_
      refine w_iload_n dX7_then_33 rfl ?_
      refine w_iadd dX7_then_34 ?_
      refine w_ialdN (k := (94 + 1)) dX7_then_35 (mg_nw hb) (nadd rfl rfl) (by omega) (kk := ?_)
      refine w_goto (tgt := 55) dX7_then_36 (by decide) ?_
      exact w_iret dX7_then_55 rfl (by rw [← hQ]; rfl) (by rw [hQ]) (mlen hb) (Nat.le_refl 0)
    · skip
      refine w_iload_n dX7_then_22 rfl ?_
      refine w_iconst (v := 2) dX7_then_23 (by decide) ?_
      refine w_icmp_ge_t (tgt := 39) dX7_then_24 (by decide) (by decide) ?_
      refine w_iload_n dX7_then_39 rfl ?_
      refine w_iconst (v := 2) dX7_then_40 (by decide) ?_
      refine w_icmp_ne_f dX7_then_41 ⟨51, by decide⟩ rfl ?_
      refine w_aload_n dX7_then_44 rfl ?_
      refine w_get dX7_then_45 f_X7_71 (mg0 hb) rfl ?_
      refine w_goto (tgt := 55) dX7_then_48 (by decide) ?_
      exact w_iret dX7_then_55 rfl (by rw [← hQ]; rfl) (by rw [hQ]) (mlen hb) (Nat.le_refl 0)
    · skip
      refine w_iload_n dX7_then_22 rfl ?_
      refine w_iconst (v := 2) dX7_then_23 (by decide) ?_
      refine w_icmp_ge_t (tgt := 39) dX7_then_24 (by decide) (by decide) ?_
      refine w_iload_n dX7_then_39 rfl ?_
      refine w_iconst (v := 2) dX7_then_40 (by decide) ?_
      refine w_icmp_ne_t (tgt := 51) dX7_then_41 (by decide) (by decide) ?_
      refine w_aload_n dX7_then_51 rfl ?_
      refine w_get dX7_then_52 f_X7_74 (mg0 hb) rfl ?_
      exact w_iret dX7_then_55 rfl (by rw [← hQ]; rfl) (by rw [hQ]) (mlen hb) (Nat.le_refl 0)
  refine w_iload_n dX7_then_0 rfl ?_
  refine w_iconst (v := 0) dX7_then_1 (by decide) ?_
  refine w_iconst (v := 3) dX7_then_2 (by decide) ?_
  refine w_callSr dX7_then_3 k_X7_41 (pm_X7_in) rfl rfl (Nat.le_of_ble_eq_true rfl) (Nat.le_of_ble_eq_true rfl) (Nat.le_of_ble_eq_true rfl) (rc00 (mlen hb) (Nat.le_refl 0)) ?_
  refine w_zif_ne_t (tgt := 12) dX7_then_6 (by decide) h2 ?_
  refine w_aload_n dX7_then_12 rfl ?_
  refine w_callVr dX7_then_13 k_X7_114 (pm_X7_bar_a hb hc hs hW hf) rfl rfl (mg0 hb) rfl (Nat.le_of_ble_eq_true rfl) (Nat.le_of_ble_eq_true rfl) (Nat.le_of_ble_eq_true rfl) (rc00 (mlen hb) (Nat.le_refl 0)) ?_
  refine w_if_ge_t (tgt := 22) dX7_then_16 (by decide) (bar_a hg) ?_
  exact body _ rfl

