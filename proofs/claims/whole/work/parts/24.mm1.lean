set_option maxRecDepth 100000 in
set_option maxHeartbeats 4000000 in
theorem pm_X7_bits {l : Launch} {D : va_G} {h : PH} {x : Int32} : PM l D YX7_bits 1 [.int x] h 0 0 (some (.int (mb x))) h := by
  refine pm_of2 (n0 := h.length) kb_YX7_bits rfl [some (.int x), none, none] (fun _ => rfl) (fun _ => (Nat.le_of_ble_eq_true rfl)) ?_
  have loop : ∀ (k i : Nat), i + k = 8 → Wp l D YX7_bits (pRm 1 0 0) h.length (fun _ _ _ => True) (mE D h.length 0 0 (some (.int (mb x))) h) 4 [some (.int x), some (.int (iter (fun i a => a + ((x >>> (nI i &&& 31)) &&& 1)) i 0)), some (.int (nI i))] [] h 0 := by
    intro k
    induction k with
    | zero =>
      intro i hi
      have hi : i = 8 := by omega
      subst hi
      refine w_iload_n dX7_bits_4 rfl ?_
      refine w_bipush (v := 8) dX7_bits_5 (by decide) ?_
      refine w_icmp_ge_t (tgt := 24) dX7_bits_7 (by decide) (Int32.le_refl _) ?_
      refine w_iload_n dX7_bits_24 rfl ?_
      exact w_iret dX7_bits_25 rfl rfl rfl rfl (Nat.le_refl 0)
    | succ k ih =>
      intro i hi
      refine w_iload_n dX7_bits_4 rfl ?_
      refine w_bipush (v := 8) dX7_bits_5 (by decide) ?_
      refine w_icmp_ge_f dX7_bits_7 ⟨24, by decide⟩ (lp_g hi (by decide) rfl) ?_
      refine w_iload_n dX7_bits_10 rfl ?_
      refine w_iload_n dX7_bits_11 rfl ?_
      refine w_iload_n dX7_bits_12 rfl ?_
      refine w_ishr dX7_bits_13 ?_
      refine w_iconst (v := 1) dX7_bits_14 (by decide) ?_
      refine w_iand dX7_bits_15 ?_
      refine w_iadd dX7_bits_16 ?_
      refine w_istore_1 dX7_bits_17 (Nat.le_of_ble_eq_true rfl) rfl ?_
      refine w_iinc_2 (v := 1) dX7_bits_18 (by decide) (Nat.le_of_ble_eq_true rfl) rfl ?_
      refine w_goto (tgt := 4) dX7_bits_21 (by decide) ?_
      exact w_loc_2 (nI_1 i) (ih (i + 1) (by omega))
  refine w_iconst (v := 0) dX7_bits_0 (by decide) ?_
  refine w_istore_1 dX7_bits_1 (Nat.le_of_ble_eq_true rfl) rfl ?_
  refine w_iconst (v := 0) dX7_bits_2 (by decide) ?_
  refine w_istore_2 dX7_bits_3 (Nat.le_of_ble_eq_true rfl) rfl ?_
  exact loop 8 0 rfl

set_option maxRecDepth 100000 in
set_option maxHeartbeats 4000000 in
theorem pm_X7_isSoul {l : Launch} {D : va_G} {h : PH} {x : Int32} : PM l D YX7_isSoul 2 [.int x] h 0 0 (some (.int (b2i (sSoul x)))) h := by
  refine pm_of2 (n0 := h.length) kb_YX7_isSoul rfl [some (.int x)] (fun _ => rfl) (fun _ => (Nat.le_of_ble_eq_true rfl)) ?_
  refine w_iload_n dX7_isSoul_0 rfl ?_
  refine w_iconst (v := 0) dX7_isSoul_1 (by decide) ?_
  refine w_bipush (v := 7) dX7_isSoul_2 (by decide) ?_
  refine w_callSr dX7_isSoul_4 k_X7_41 (pm_X7_in) rfl rfl (Nat.le_of_ble_eq_true rfl) (Nat.le_of_ble_eq_true rfl) (Nat.le_of_ble_eq_true rfl) (rc00 rfl (Nat.le_refl 0)) ?_
  exact w_zretb dX7_isSoul_7 rfl (by rw [sSoul_in]) rfl rfl (Nat.le_refl 0)

set_option maxRecDepth 100000 in
set_option maxHeartbeats 4000000 in
theorem pm_X7_isBox {l : Launch} {D : va_G} {h : PH} {x : Int32} : PM l D YX7_isBox 2 [.int x] h 0 0 (some (.int (b2i (sBox x)))) h := by
  refine pm_of2 (n0 := h.length) kb_YX7_isBox rfl [some (.int x)] (fun _ => rfl) (fun _ => (Nat.le_of_ble_eq_true rfl)) ?_
  refine w_iload_n dX7_isBox_0 rfl ?_
  refine w_iconst (v := 0) dX7_isBox_1 (by decide) ?_
  refine w_iconst (v := 5) dX7_isBox_2 (by decide) ?_
  refine w_callSr dX7_isBox_3 k_X7_41 (pm_X7_in) rfl rfl (Nat.le_of_ble_eq_true rfl) (Nat.le_of_ble_eq_true rfl) (Nat.le_of_ble_eq_true rfl) (rc00 rfl (Nat.le_refl 0)) ?_
  exact w_zretb dX7_isBox_6 rfl (by rw [sBox_in]) rfl rfl (Nat.le_refl 0)

set_option maxRecDepth 100000 in
set_option maxHeartbeats 4000000 in
theorem pm_X7_isLetter {l : Launch} {D : va_G} {h : PH} {x : Int32} : PM l D YX7_isLetter 2 [.int x] h 0 0 (some (.int (b2i (sIn x 65 72)))) h := by
  refine pm_of2 (n0 := h.length) kb_YX7_isLetter rfl [some (.int x)] (fun _ => rfl) (fun _ => (Nat.le_of_ble_eq_true rfl)) ?_
  refine w_iload_n dX7_isLetter_0 rfl ?_
  refine w_bipush (v := 65) dX7_isLetter_1 (by decide) ?_
  refine w_bipush (v := 72) dX7_isLetter_3 (by decide) ?_
  refine w_callSr dX7_isLetter_5 k_X7_41 (pm_X7_in) rfl rfl (Nat.le_of_ble_eq_true rfl) (Nat.le_of_ble_eq_true rfl) (Nat.le_of_ble_eq_true rfl) (rc00 rfl (Nat.le_refl 0)) ?_
  exact w_zretb dX7_isLetter_8 rfl rfl rfl rfl (Nat.le_refl 0)

set_option maxRecDepth 100000 in
set_option maxHeartbeats 4000000 in
theorem pm_X7_lives {l : Launch} {D : va_G} {h : PH} {M : MS} (hb : 38 < h.length) {N : WS} (hR : RB N (mbk M)) {s : Int32} : PM l D YX7_lives 3 [.ref 28, .int s] (mput h M) 0 0 (some (.int (b2i (sLiv N s)))) (mput h M) := by
  refine pm_of2 (n0 := h.length) kb_YX7_lives (mlen hb) [some (.ref 28), some (.int s)] (fun _ => rfl) (fun _ => (Nat.le_of_ble_eq_true rfl)) ?_
  refine w_iload_n dX7_lives_0 rfl ?_
  refine w_callSr dX7_lives_1 k_X7_45 (pm_X7_isSoul) rfl rfl (Nat.le_of_ble_eq_true rfl) (Nat.le_of_ble_eq_true rfl) (Nat.le_of_ble_eq_true rfl) (rc00 (mlen hb) (Nat.le_refl 0)) ?_
  refine w_ztif_eq (a := ?a4_1) (b := ?b4_1) (pJ := 26) (tgt := 25) dX7_lives_4 (by decide) (fun c_4 k => ?hA4_1) (fun c_4 k => ?hB4_1) ?hk4_1
  case hA4_1 =>
    refine w_iconst (v := 0) dX7_lives_25 (by decide) ?_
    exact k
  case hB4_1 =>
    refine w_aload_n dX7_lives_7 rfl ?_
    refine w_get dX7_lives_8 f_X7_7 (mg0 hb) rfl ?_
    refine w_bipush (v := 94) dX7_lives_11 (by decide) ?_
    refine w_ialdN (k := 94) dX7_lives_13 (mg_bk hb) rfl (by omega) (kk := ?_)
    rw [hR.2.2.2.1]
    refine w_iload_n dX7_lives_14 rfl ?_
    refine w_callSr dX7_lives_15 k_X7_49 (pm_X7_has) rfl rfl (Nat.le_of_ble_eq_true rfl) (Nat.le_of_ble_eq_true rfl) (Nat.le_of_ble_eq_true rfl) (rc00 (mlen hb) (Nat.le_refl 0)) ?_
    refine w_ztif_eq (a := ?a18_2) (b := ?b18_2) (pJ := 26) (tgt := 25) dX7_lives_18 (by decide) (fun c_18 k => ?hA18_2) (fun c_18 k => ?hB18_2) ?hk18_2
    case hA18_2 =>
      refine w_iconst (v := 0) dX7_lives_25 (by decide) ?_
      exact k
    case hB18_2 =>
      refine w_iconst (v := 1) dX7_lives_21 (by decide) ?_
      refine w_goto (tgt := 26) dX7_lives_22 (by decide) ?_
      exact k
    exact k
  exact w_zretb dX7_lives_26 rfl (e_and _ _) rfl (mlen hb) (Nat.le_refl 0)

set_option maxRecDepth 100000 in
set_option maxHeartbeats 4000000 in
theorem pm_X7_doesOpen {l : Launch} {D : va_G} {h : PH} {M : MS} (hb : 38 < h.length) {N : WS} (hW : RW N M) {x : Nat} {q : Int32} (hx : x < 6) : PM l D YX7_doesOpen 2 [.ref 28, .int (nI x), .int q] (mput h M) 0 0 (some (.int (b2i (decide (whi N x ≤ mb (q &&& wwn N x)))))) (mput h M) := by
  refine pm_of2 (n0 := h.length) kb_YX7_doesOpen (mlen hb) [some (.ref 28), some (.int (nI x)), some (.int q)] (fun _ => rfl) (fun _ => (Nat.le_of_ble_eq_true rfl)) ?_
  refine w_iload_n dX7_doesOpen_0 rfl ?_
  refine w_aload_n dX7_doesOpen_1 rfl ?_
  refine w_get dX7_doesOpen_2 f_X7_16 (mg0 hb) rfl ?_
  refine w_iload_n dX7_doesOpen_5 rfl ?_
  refine w_ialdN (k := x) dX7_doesOpen_6 (mg_wn hb) rfl (by omega) (kk := ?_)
  rw [(hW x hx).1]
  refine w_iand dX7_doesOpen_7 ?_
  refine w_callSr dX7_doesOpen_8 k_X7_53 (pm_X7_bits) rfl rfl (Nat.le_of_ble_eq_true rfl) (Nat.le_of_ble_eq_true rfl) (Nat.le_of_ble_eq_true rfl) (rc00 (mlen hb) (Nat.le_refl 0)) ?_
  refine w_aload_n dX7_doesOpen_11 rfl ?_
  refine w_get dX7_doesOpen_12 f_X7_19 (mg0 hb) rfl ?_
  refine w_iload_n dX7_doesOpen_15 rfl ?_
  refine w_ialdN (k := x) dX7_doesOpen_16 (mg_hi hb) rfl (by omega) (kk := ?_)
  rw [(hW x hx).2]
  refine w_ticmp_lt (a := ?a17_1) (b := ?b17_1) (pJ := 25) (tgt := 24) dX7_doesOpen_17 (by decide) (fun c_17 k => ?hA17_1) (fun c_17 k => ?hB17_1) ?hk17_1
  case hA17_1 =>
    refine w_iconst (v := 0) dX7_doesOpen_24 (by decide) ?_
    exact k
  case hB17_1 =>
    refine w_iconst (v := 1) dX7_doesOpen_20 (by decide) ?_
    refine w_goto (tgt := 25) dX7_doesOpen_21 (by decide) ?_
    exact k
  exact w_zretb dX7_doesOpen_25 rfl (by rw [← e_dec]; by_cases hq : whi N x ≤ mb (q &&& wwn N x) <;> simp [hq, ← Int32.not_le]) rfl (mlen hb) (Nat.le_refl 0)

set_option maxRecDepth 100000 in
set_option maxHeartbeats 4000000 in
theorem pm_X7_feels {l : Launch} {D : va_G} {h : PH} {M : MS} (hb : 38 < h.length) {N : WS} (hR : RB N (mbk M)) (hW : RW N M) (hN : NOk N) {x i : Nat} (hx : x < 6) (hi : i < 8) : PM l D YX7_feels 4 [.ref 28, .int (nI x), .int (nI i)] (mput h M) 0 0 (some (.int (sFeelL N (nI x) i))) (mput h M) := by
  refine pm_of2 (n0 := h.length) kb_YX7_feels (mlen hb) [some (.ref 28), some (.int (nI x)), some (.int (nI i))] (fun _ => rfl) (fun _ => (Nat.le_of_ble_eq_true rfl)) ?_
  refine w_aload_n dX7_feels_0 rfl ?_
  refine w_iload_n dX7_feels_1 rfl ?_
  refine w_callVr dX7_feels_2 k_X7_117 (pm_X7_lives hb hR) rfl rfl (mg0 hb) rfl (Nat.le_of_ble_eq_true rfl) (Nat.le_of_ble_eq_true rfl) (Nat.le_of_ble_eq_true rfl) (rc00 (mlen hb) (Nat.le_refl 0)) ?_
  refine w_ztif_eq (a := ?a5_1) (b := ?b5_1) (pJ := 28) (tgt := 27) dX7_feels_5 (by decide) (fun c_5 k => ?hA5_1) (fun c_5 k => ?hB5_1) ?hk5_1
  case hA5_1 =>
    refine w_iconst (v := 0) dX7_feels_27 (by decide) ?_
    exact k
  case hB5_1 =>
    refine w_aload_n dX7_feels_8 rfl ?_
    refine w_get dX7_feels_9 f_X7_7 (mg0 hb) rfl ?_
    refine w_iload_n dX7_feels_12 rfl ?_
    refine w_ialdN (k := i) dX7_feels_13 (mg_bk hb) rfl (by omega) (kk := ?_)
    rw [(hR.1 i hi).1]
    refine w_aload_n dX7_feels_14 rfl ?_
    refine w_get dX7_feels_15 f_X7_16 (mg0 hb) rfl ?_
    refine w_iload_n dX7_feels_18 rfl ?_
    refine w_ialdN (k := x) dX7_feels_19 (mg_wn hb) rfl (by omega) (kk := ?_)
    rw [(hW x hx).1]
    refine w_iand dX7_feels_20 ?_
    refine w_callSr dX7_feels_21 k_X7_53 (pm_X7_bits) rfl rfl (Nat.le_of_ble_eq_true rfl) (Nat.le_of_ble_eq_true rfl) (Nat.le_of_ble_eq_true rfl) (rc00 (mlen hb) (Nat.le_refl 0)) ?_
    rw [felt_mb hN hx hi]
    refine w_goto (tgt := 28) dX7_feels_24 (by decide) ?_
    exact k
  exact w_iret dX7_feels_28 rfl (by rw [cond_eq_ite]; rfl) rfl (mlen hb) (Nat.le_refl 0)

theorem lets_nI {N : WS} {x i : Nat} (hx : x < 6) : sLets N (nI x) (nI i) = (sLiv N (nI i) && decide (whi N x ≤ sFelt N (nI x) (nI i))) := by
  rw [sLets, box_of hx, Bool.true_and, cl8 (by omega)]
theorem or_0 (a : Int32) : a ||| 0 = a := by
  apply Int32.toBitVec_inj.mp
  show a.toBitVec ||| 0#32 = a.toBitVec
  simp
theorem fOr_bif (c : Nat → Bool) (i : Nat) (a : Int32) : (a ||| (bif c i then 1 <<< (nI i &&& 31) else 0)) = fOr c i a := by
  rw [fOr]
  cases c i
  · exact or_0 a
  · rfl
set_option maxRecDepth 100000 in
set_option maxHeartbeats 4000000 in
theorem pm_X7_openSet {l : Launch} {D : va_G} {h : PH} {M : MS} (hb : 38 < h.length) {N : WS} (hR : RB N (mbk M)) (hW : RW N M) (hN : NOk N) {x : Nat} (hx : x < 6) : PM l D YX7_openSet 4 [.ref 28, .int (nI x)] (mput h M) 0 0 (some (.int (sLetIn N (nI x)))) (mput h M) := by
  refine pm_of2 (n0 := h.length) kb_YX7_openSet (mlen hb) [some (.ref 28), some (.int (nI x)), none, none] (fun _ => rfl) (fun _ => (Nat.le_of_ble_eq_true rfl)) ?_
  have loop : ∀ (k i : Nat), i + k = 8 → Wp l D YX7_openSet (pRm 4 0 0) h.length (fun _ _ _ => True) (mE D h.length 0 0 (some (.int (sLetIn N (nI x)))) (mput h M)) 4 [some (.ref 28), some (.int (nI x)), some (.int (iter (fOr (fun i => sLets N (nI x) (nI i))) i 0)), some (.int (nI i))] [] (mput h M) 0 := by
    intro k
    induction k with
    | zero =>
      intro i hi
      have hi : i = 8 := by omega
      subst hi
      refine w_iload_n dX7_openSet_4 rfl ?_
      refine w_bipush (v := 8) dX7_openSet_5 (by decide) ?_
      refine w_icmp_ge_t (tgt := 48) dX7_openSet_7 (by decide) (Int32.le_refl _) ?_
      refine w_iload_n dX7_openSet_48 rfl ?_
      exact w_iret dX7_openSet_49 rfl rfl rfl (mlen hb) (Nat.le_refl 0)
    | succ k ih =>
      intro i hi
      refine w_iload_n dX7_openSet_4 rfl ?_
      refine w_bipush (v := 8) dX7_openSet_5 (by decide) ?_
      refine w_icmp_ge_f dX7_openSet_7 ⟨48, by decide⟩ (lp_g hi (by decide) rfl) ?_
      refine w_iload_n dX7_openSet_10 rfl ?_
      refine w_aload_n dX7_openSet_11 rfl ?_
      refine w_iload_n dX7_openSet_12 rfl ?_
      refine w_callVr dX7_openSet_13 k_X7_117 (pm_X7_lives hb hR) rfl rfl (mg0 hb) rfl (Nat.le_of_ble_eq_true rfl) (Nat.le_of_ble_eq_true rfl) (Nat.le_of_ble_eq_true rfl) (rc00 (mlen hb) (Nat.le_refl 0)) ?_
      refine w_ztif_eq (a := ?a16_1) (b := ?b16_1) (pJ := 40) (tgt := 39) dX7_openSet_16 (by decide) (fun c_16 k => ?hA16_1) (fun c_16 k => ?hB16_1) ?hk16_1
      case hA16_1 =>
        refine w_iconst (v := 0) dX7_openSet_39 (by decide) ?_
        exact k
      case hB16_1 =>
        refine w_aload_n dX7_openSet_19 rfl ?_
        refine w_iload_n dX7_openSet_20 rfl ?_
        refine w_aload_n dX7_openSet_21 rfl ?_
        refine w_get dX7_openSet_22 f_X7_7 (mg0 hb) rfl ?_
        refine w_iload_n dX7_openSet_25 rfl ?_
        refine w_ialdN (k := i) dX7_openSet_26 (mg_bk hb) rfl (by omega) (kk := ?_)
        rw [(hR.1 i (by omega)).1]
        refine w_callVr dX7_openSet_27 k_X7_77 (pm_X7_doesOpen hb hW (by omega)) rfl rfl (mg0 hb) rfl (Nat.le_of_ble_eq_true rfl) (Nat.le_of_ble_eq_true rfl) (Nat.le_of_ble_eq_true rfl) (rc00 (mlen hb) (Nat.le_refl 0)) ?_
        rw [felt_mb hN hx (show i < 8 by omega)]
        refine w_ztif_eq (a := ?a30_2) (b := ?b30_2) (pJ := 40) (tgt := 39) dX7_openSet_30 (by decide) (fun c_30 k => ?hA30_2) (fun c_30 k => ?hB30_2) ?hk30_2
        case hA30_2 =>
          refine w_iconst (v := 0) dX7_openSet_39 (by decide) ?_
          exact k
        case hB30_2 =>
          refine w_iconst (v := 1) dX7_openSet_33 (by decide) ?_
          refine w_iload_n dX7_openSet_34 rfl ?_
          refine w_ishl dX7_openSet_35 ?_
          refine w_goto (tgt := 40) dX7_openSet_36 (by decide) ?_
          exact k
        exact k
      refine w_ior dX7_openSet_40 ?_
      refine w_istore_2 dX7_openSet_41 (Nat.le_of_ble_eq_true rfl) rfl ?_
      refine w_iinc_3 (v := 1) dX7_openSet_42 (by decide) (Nat.le_of_ble_eq_true rfl) rfl ?_
      refine w_goto (tgt := 4) dX7_openSet_45 (by decide) ?_
      refine w_loc_3 (nI_1 i) (w_loc_2 ?_ (ih (i + 1) (by omega)))
      show _ = fOr _ i _
      rw [← fOr_bif, lets_nI hx]
      cases sLiv N (nI i) <;> rfl
  refine w_iconst (v := 0) dX7_openSet_0 (by decide) ?_
  refine w_istore_2 dX7_openSet_1 (Nat.le_of_ble_eq_true rfl) rfl ?_
  refine w_iconst (v := 0) dX7_openSet_2 (by decide) ?_
  refine w_istore_3 dX7_openSet_3 (Nat.le_of_ble_eq_true rfl) rfl ?_
  exact loop 8 0 rfl

set_option maxRecDepth 100000 in
set_option maxHeartbeats 4000000 in
theorem pm_X7_opens {l : Launch} {D : va_G} {h : PH} {M : MS} (hb : 38 < h.length) {N : WS} (hR : RB N (mbk M)) (hW : RW N M) (hN : NOk N) {x : Int32} : PM l D YX7_opens 5 [.ref 28, .int x] (mput h M) 0 0 (some (.int (if sBox x then sLetIn N x else -1))) (mput h M) := by
  refine pm_of2 (n0 := h.length) kb_YX7_opens (mlen hb) [some (.ref 28), some (.int x)] (fun _ => rfl) (fun _ => (Nat.le_of_ble_eq_true rfl)) ?_
  cases hx : sBox x with
  | false =>
    refine w_iload_n dX7_opens_0 rfl ?_
    refine w_callSr dX7_opens_1 k_X7_57 (pm_X7_isBox) rfl rfl (Nat.le_of_ble_eq_true rfl) (Nat.le_of_ble_eq_true rfl) (Nat.le_of_ble_eq_true rfl) (rc00 (mlen hb) (Nat.le_refl 0)) ?_
    refine w_zif_eq_t (tgt := 15) dX7_opens_4 (by decide) hx ?_
    refine w_iconst (v := (-1)) dX7_opens_15 (by decide) ?_
    exact w_iret dX7_opens_16 rfl rfl rfl (mlen hb) (Nat.le_refl 0)
  | true =>
    obtain ⟨j, hj, rfl⟩ := box_nI hx
    refine w_iload_n dX7_opens_0 rfl ?_
    refine w_callSr dX7_opens_1 k_X7_57 (pm_X7_isBox) rfl rfl (Nat.le_of_ble_eq_true rfl) (Nat.le_of_ble_eq_true rfl) (Nat.le_of_ble_eq_true rfl) (rc00 (mlen hb) (Nat.le_refl 0)) ?_
    refine w_zif_eq_f dX7_opens_4 ⟨15, by decide⟩ hx ?_
    refine w_aload_n dX7_opens_7 rfl ?_
    refine w_iload_n dX7_opens_8 rfl ?_
    refine w_callVr dX7_opens_9 k_X7_120 (pm_X7_openSet hb hR hW hN (by omega)) rfl rfl (mg0 hb) rfl (Nat.le_of_ble_eq_true rfl) (Nat.le_of_ble_eq_true rfl) (Nat.le_of_ble_eq_true rfl) (rc00 (mlen hb) (Nat.le_refl 0)) ?_
    refine w_goto (tgt := 16) dX7_opens_12 (by decide) ?_
    exact w_iret dX7_opens_16 rfl rfl rfl (mlen hb) (Nat.le_refl 0)

theorem letIn_nI (N : WS) (x : Int32) : ∃ a, a < 256 ∧ sLetIn N x = nI a := ⟨_, bN_lt _ 8, bitsOf_nI _ 8 (by decide)⟩
theorem le1_2 (x : Int32) : (x ≤ 1) ↔ ¬ (2 ≤ x) := by
  rw [Int32.le_iff_toInt_le, Int32.le_iff_toInt_le]
  have e1 : (1 : Int32).toInt = 1 := rfl
  have e2 : (2 : Int32).toInt = 2 := rfl
  omega
theorem letIn_bc (N : WS) (x : Int32) : mb (sLetIn N x) = bc (sLetIn N x) := by
  obtain ⟨a, ha, e⟩ := letIn_nI N x
  rw [e, mb_bc a ha]
set_option maxRecDepth 100000 in
set_option maxHeartbeats 4000000 in
theorem pm_X7_two {l : Launch} {D : va_G} {h : PH} {M : MS} (hb : 38 < h.length) {N : WS} (hR : RB N (mbk M)) (hW : RW N M) (hN : NOk N) : PM l D YX7_two 5 [.ref 28] (mput h M) 0 0 (some (.int (cTwo N))) (mput h M) := by
  refine pm_of2 (n0 := h.length) kb_YX7_two (mlen hb) [some (.ref 28), none, none] (fun _ => rfl) (fun _ => (Nat.le_of_ble_eq_true rfl)) ?_
  have loop : ∀ (k i : Nat), i + k = 6 → Wp l D YX7_two (pRm 5 0 0) h.length (fun _ _ _ => True) (mE D h.length 0 0 (some (.int (cTwo N))) (mput h M)) 4 [some (.ref 28), some (.int (iter (fOr (fun i => decide (2 ≤ bc (sLetIn N (nI i))))) i 0)), some (.int (nI i))] [] (mput h M) 0 := by
    intro k
    induction k with
    | zero =>
      intro i hi
      have hi : i = 6 := by omega
      subst hi
      refine w_iload_n dX7_two_4 rfl ?_
      refine w_bipush (v := 6) dX7_two_5 (by decide) ?_
      refine w_icmp_ge_t (tgt := 38) dX7_two_7 (by decide) (Int32.le_refl _) ?_
      refine w_iload_n dX7_two_38 rfl ?_
      exact w_iret dX7_two_39 rfl rfl rfl (mlen hb) (Nat.le_refl 0)
    | succ k ih =>
      intro i hi
      refine w_iload_n dX7_two_4 rfl ?_
      refine w_bipush (v := 6) dX7_two_5 (by decide) ?_
      refine w_icmp_ge_f dX7_two_7 ⟨38, by decide⟩ (lp_g hi (by decide) rfl) ?_
      refine w_iload_n dX7_two_10 rfl ?_
      refine w_aload_n dX7_two_11 rfl ?_
      refine w_iload_n dX7_two_12 rfl ?_
      refine w_callVr dX7_two_13 k_X7_120 (pm_X7_openSet hb hR hW hN (by omega)) rfl rfl (mg0 hb) rfl (Nat.le_of_ble_eq_true rfl) (Nat.le_of_ble_eq_true rfl) (Nat.le_of_ble_eq_true rfl) (rc00 (mlen hb) (Nat.le_refl 0)) ?_
      refine w_callSr dX7_two_16 k_X7_53 (pm_X7_bits) rfl rfl (Nat.le_of_ble_eq_true rfl) (Nat.le_of_ble_eq_true rfl) (Nat.le_of_ble_eq_true rfl) (rc00 (mlen hb) (Nat.le_refl 0)) ?_
      rw [letIn_bc]
      refine w_iconst (v := 1) dX7_two_19 (by decide) ?_
      refine w_ticmp_le (a := ?a20_1) (b := ?b20_1) (pJ := 30) (tgt := 29) dX7_two_20 (by decide) (fun c_20 k => ?hA20_1) (fun c_20 k => ?hB20_1) ?hk20_1
      case hA20_1 =>
        refine w_iconst (v := 0) dX7_two_29 (by decide) ?_
        exact k
      case hB20_1 =>
        refine w_iconst (v := 1) dX7_two_23 (by decide) ?_
        refine w_iload_n dX7_two_24 rfl ?_
        refine w_ishl dX7_two_25 ?_
        refine w_goto (tgt := 30) dX7_two_26 (by decide) ?_
        exact k
      refine w_ior dX7_two_30 ?_
      refine w_istore_1 dX7_two_31 (Nat.le_of_ble_eq_true rfl) rfl ?_
      refine w_iinc_2 (v := 1) dX7_two_32 (by decide) (Nat.le_of_ble_eq_true rfl) rfl ?_
      refine w_goto (tgt := 4) dX7_two_35 (by decide) ?_
      refine w_loc_2 (nI_1 i) (w_loc_1 ?_ (ih (i + 1) (by omega)))
      show _ = fOr _ i _
      rw [← fOr_bif]
      by_cases hq : 2 ≤ bc (sLetIn N (nI i))
      · rw [if_neg (fun z => (le1_2 _).mp z hq), decide_eq_true hq]; rfl
      · rw [if_pos ((le1_2 _).mpr hq), decide_eq_false hq]; rfl
  refine w_iconst (v := 0) dX7_two_0 (by decide) ?_
  refine w_istore_1 dX7_two_1 (Nat.le_of_ble_eq_true rfl) rfl ?_
  refine w_iconst (v := 0) dX7_two_2 (by decide) ?_
  refine w_istore_2 dX7_two_3 (Nat.le_of_ble_eq_true rfl) rfl ?_
  exact loop 6 0 rfl

theorem deb_cl {i j : Nat} (hi : i < 8) (hj : j < 8) : (sDeb (nI i) (nI j)).toNatClampNeg = i * 8 + j := by
  rw [deb_nI, nI_clamp (by omega)]
theorem RB.de {N : WS} {b : Nat → Int32} (hR : RB N b) {i j : Nat} (hi : i < 8) (hj : j < 8) : b (24 + 8 * i + j) = wde N (sDeb (nI i) (nI j)).toNatClampNeg := by
  rw [deb_cl hi hj, show 24 + 8 * i + j = 24 + (i * 8 + j) by omega]
  exact hR.2.1 _ (by omega)
set_option maxRecDepth 100000 in
set_option maxHeartbeats 4000000 in
theorem pm_X7_owes {l : Launch} {D : va_G} {h : PH} {M : MS} (hb : 38 < h.length) {N : WS} (hR : RB N (mbk M)) {s o : Int32} : PM l D YX7_owes 3 [.ref 28, .int s, .int o] (mput h M) 0 0 (some (.int (cOwe N s o))) (mput h M) := by
  refine pm_of2 (n0 := h.length) kb_YX7_owes (mlen hb) [some (.ref 28), some (.int s), some (.int o)] (fun _ => rfl) (fun _ => (Nat.le_of_ble_eq_true rfl)) ?_
  cases hs : sSoul s with
  | false =>
    refine w_iload_n dX7_owes_0 rfl ?_
    refine w_callSr dX7_owes_1 k_X7_45 (pm_X7_isSoul) rfl rfl (Nat.le_of_ble_eq_true rfl) (Nat.le_of_ble_eq_true rfl) (Nat.le_of_ble_eq_true rfl) (rc00 (mlen hb) (Nat.le_refl 0)) ?_
    refine w_zif_eq_t (tgt := 36) dX7_owes_4 (by decide) hs ?_
    refine w_iconst (v := (-1)) dX7_owes_36 (by decide) ?_
    exact w_iret dX7_owes_37 rfl (by simp only [cOwe, hs, Bool.false_eq_true, if_false]) rfl (mlen hb) (Nat.le_refl 0)
  | true =>
    cases ho : sSoul o with
    | false =>
      refine w_iload_n dX7_owes_0 rfl ?_
      refine w_callSr dX7_owes_1 k_X7_45 (pm_X7_isSoul) rfl rfl (Nat.le_of_ble_eq_true rfl) (Nat.le_of_ble_eq_true rfl) (Nat.le_of_ble_eq_true rfl) (rc00 (mlen hb) (Nat.le_refl 0)) ?_
      refine w_zif_eq_f dX7_owes_4 ⟨36, by decide⟩ hs ?_
      refine w_iload_n dX7_owes_7 rfl ?_
      refine w_callSr dX7_owes_8 k_X7_45 (pm_X7_isSoul) rfl rfl (Nat.le_of_ble_eq_true rfl) (Nat.le_of_ble_eq_true rfl) (Nat.le_of_ble_eq_true rfl) (rc00 (mlen hb) (Nat.le_refl 0)) ?_
      refine w_zif_eq_t (tgt := 36) dX7_owes_11 (by decide) ho ?_
      refine w_iconst (v := (-1)) dX7_owes_36 (by decide) ?_
      exact w_iret dX7_owes_37 rfl (by simp only [cOwe, hs, ho, Bool.false_eq_true, if_false, if_true]) rfl (mlen hb) (Nat.le_refl 0)
    | true =>
      obtain ⟨i, hi, rfl⟩ := soul_nI hs
      obtain ⟨j, hj, rfl⟩ := soul_nI ho
      refine w_iload_n dX7_owes_0 rfl ?_
      refine w_callSr dX7_owes_1 k_X7_45 (pm_X7_isSoul) rfl rfl (Nat.le_of_ble_eq_true rfl) (Nat.le_of_ble_eq_true rfl) (Nat.le_of_ble_eq_true rfl) (rc00 (mlen hb) (Nat.le_refl 0)) ?_
      refine w_zif_eq_f dX7_owes_4 ⟨36, by decide⟩ hs ?_
      refine w_iload_n dX7_owes_7 rfl ?_
      refine w_callSr dX7_owes_8 k_X7_45 (pm_X7_isSoul) rfl rfl (Nat.le_of_ble_eq_true rfl) (Nat.le_of_ble_eq_true rfl) (Nat.le_of_ble_eq_true rfl) (rc00 (mlen hb) (Nat.le_refl 0)) ?_
      refine w_zif_eq_f dX7_owes_11 ⟨36, by decide⟩ ho ?_
      refine w_iload_n dX7_owes_14 rfl ?_
      refine w_iload_n dX7_owes_15 rfl ?_
      refine w_icmp_eq (tgt := 36) dX7_owes_16 (by decide) (fun c_16 => ?_) (fun c_16 => ?_)
      · skip
        refine w_iconst (v := (-1)) dX7_owes_36 (by decide) ?_
        exact w_iret dX7_owes_37 rfl (by first | (rw [cOwe, if_pos hs, if_pos ho, if_pos c_16]; done) | (rw [cOwe, if_pos hs, if_pos ho, if_neg c_16]; done)) rfl (mlen hb) (Nat.le_refl 0)
      · skip
        refine w_aload_n dX7_owes_19 rfl ?_
        refine w_get dX7_owes_20 f_X7_7 (mg0 hb) rfl ?_
        refine w_bipush (v := 24) dX7_owes_23 (by decide) ?_
        refine w_bipush (v := 8) dX7_owes_25 (by decide) ?_
        refine w_iload_n dX7_owes_27 rfl ?_
        refine w_imul dX7_owes_28 ?_
        refine w_iadd dX7_owes_29 ?_
        refine w_iload_n dX7_owes_30 rfl ?_
        refine w_iadd dX7_owes_31 ?_
        refine w_ialdN (k := ((24 + (8 * i)) + j)) dX7_owes_32 (mg_bk hb) (nadd (nadd rfl (nmul rfl rfl)) rfl) (by omega) (kk := ?_)
        rw [hR.de hi hj]
        refine w_goto (tgt := 37) dX7_owes_33 (by decide) ?_
        exact w_iret dX7_owes_37 rfl (by first | (rw [cOwe, if_pos hs, if_pos ho, if_pos c_16]; done) | (rw [cOwe, if_pos hs, if_pos ho, if_neg c_16]; done)) rfl (mlen hb) (Nat.le_refl 0)

set_option maxRecDepth 100000 in
set_option maxHeartbeats 4000000 in
theorem pm_X7_netted {l : Launch} {D : va_G} {h : PH} {M : MS} (hb : 38 < h.length) {N : WS} (hR : RB N (mbk M)) {s : Int32} : PM l D YX7_netted 3 [.ref 28, .int s] (mput h M) 0 0 (some (.int (if sSoul s then cNet N s else -1))) (mput h M) := by
  refine pm_of2 (n0 := h.length) kb_YX7_netted (mlen hb) [some (.ref 28), some (.int s), none, none] (fun _ => rfl) (fun _ => (Nat.le_of_ble_eq_true rfl)) ?_
  cases hs : sSoul s with
  | false =>
    refine w_iload_n dX7_netted_0 rfl ?_
    refine w_callSr dX7_netted_1 k_X7_45 (pm_X7_isSoul) rfl rfl (Nat.le_of_ble_eq_true rfl) (Nat.le_of_ble_eq_true rfl) (Nat.le_of_ble_eq_true rfl) (rc00 (mlen hb) (Nat.le_refl 0)) ?_
    refine w_zif_ne_f dX7_netted_4 ⟨9, by decide⟩ hs ?_
    refine w_iconst (v := (-1)) dX7_netted_7 (by decide) ?_
    exact w_iret dX7_netted_8 rfl rfl rfl (mlen hb) (Nat.le_refl 0)
  | true =>
    obtain ⟨j, hj, rfl⟩ := soul_nI hs
    have loop : ∀ (k i : Nat), i + k = 8 → Wp l D YX7_netted (pRm 3 0 0) h.length (fun _ _ _ => True) (mE D h.length 0 0 (some (.int (if true = true then cNet N (nI j) else -1))) (mput h M)) 15 [some (.ref 28), some (.int (nI j)), some (.int (iter (fun i a => a + (wde N (sDeb (nI i) (nI j)).toNatClampNeg - wde N (sDeb (nI j) (nI i)).toNatClampNeg)) i 10000)), some (.int (nI i))] [] (mput h M) 0 := by
      intro k
      induction k with
      | zero =>
        intro i hi
        have hi : i = 8 := by omega
        subst hi
        refine w_iload_n dX7_netted_15 rfl ?_
        refine w_bipush (v := 8) dX7_netted_16 (by decide) ?_
        refine w_icmp_ge_t (tgt := 59) dX7_netted_18 (by decide) (Int32.le_refl _) ?_
        refine w_iload_n dX7_netted_59 rfl ?_
        exact w_iret dX7_netted_60 rfl (by rw [if_pos rfl]; rfl) rfl (mlen hb) (Nat.le_refl 0)
      | succ k ih =>
        intro i hi
        refine w_iload_n dX7_netted_15 rfl ?_
        refine w_bipush (v := 8) dX7_netted_16 (by decide) ?_
        refine w_icmp_ge_f dX7_netted_18 ⟨59, by decide⟩ (lp_g hi (by decide) rfl) ?_
        refine w_iload_n dX7_netted_21 rfl ?_
        refine w_aload_n dX7_netted_22 rfl ?_
        refine w_get dX7_netted_23 f_X7_7 (mg0 hb) rfl ?_
        refine w_bipush (v := 24) dX7_netted_26 (by decide) ?_
        refine w_bipush (v := 8) dX7_netted_28 (by decide) ?_
        refine w_iload_n dX7_netted_30 rfl ?_
        refine w_imul dX7_netted_31 ?_
        refine w_iadd dX7_netted_32 ?_
        refine w_iload_n dX7_netted_33 rfl ?_
        refine w_iadd dX7_netted_34 ?_
        refine w_ialdN (k := ((24 + (8 * i)) + j)) dX7_netted_35 (mg_bk hb) (nadd (nadd rfl (nmul rfl rfl)) rfl) (by omega) (kk := ?_)
        rw [hR.de (show i < 8 by omega) hj]
        refine w_aload_n dX7_netted_36 rfl ?_
        refine w_get dX7_netted_37 f_X7_7 (mg0 hb) rfl ?_
        refine w_bipush (v := 24) dX7_netted_40 (by decide) ?_
        refine w_bipush (v := 8) dX7_netted_42 (by decide) ?_
        refine w_iload_n dX7_netted_44 rfl ?_
        refine w_imul dX7_netted_45 ?_
        refine w_iadd dX7_netted_46 ?_
        refine w_iload_n dX7_netted_47 rfl ?_
        refine w_iadd dX7_netted_48 ?_
        refine w_ialdN (k := ((24 + (8 * j)) + i)) dX7_netted_49 (mg_bk hb) (nadd (nadd rfl (nmul rfl rfl)) rfl) (by omega) (kk := ?_)
        rw [hR.de hj (show i < 8 by omega)]
        refine w_isub dX7_netted_50 ?_
        refine w_iadd dX7_netted_51 ?_
        refine w_istore_2 dX7_netted_52 (Nat.le_of_ble_eq_true rfl) rfl ?_
        refine w_iinc_3 (v := 1) dX7_netted_53 (by decide) (Nat.le_of_ble_eq_true rfl) rfl ?_
        refine w_goto (tgt := 15) dX7_netted_56 (by decide) ?_
        exact w_loc_3 (nI_1 i) (ih (i + 1) (by omega))
    refine w_iload_n dX7_netted_0 rfl ?_
    refine w_callSr dX7_netted_1 k_X7_45 (pm_X7_isSoul) rfl rfl (Nat.le_of_ble_eq_true rfl) (Nat.le_of_ble_eq_true rfl) (Nat.le_of_ble_eq_true rfl) (rc00 (mlen hb) (Nat.le_refl 0)) ?_
    refine w_zif_ne_t (tgt := 9) dX7_netted_4 (by decide) hs ?_
    refine w_sipush (v := 10000) dX7_netted_9 (by decide) ?_
    refine w_istore_2 dX7_netted_12 (Nat.le_of_ble_eq_true rfl) rfl ?_
    refine w_iconst (v := 0) dX7_netted_13 (by decide) ?_
    refine w_istore_3 dX7_netted_14 (Nat.le_of_ble_eq_true rfl) rfl ?_
    exact loop 8 0 rfl

