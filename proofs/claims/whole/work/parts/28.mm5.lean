set_option maxRecDepth 100000 in
set_option maxHeartbeats 1000000 in
theorem pm_X7_power {l : Launch} {D : va_G} {h : PH} {v : Int64} {k : Nat} (hk : k < 2 ^ 30) : PM l D YX7_power 1 [.long v, .int (nI k)] h 0 0 (some (.long (lpow v k))) h := by
  refine pm_of2 (n0 := h.length) kb_YX7_power rfl [some (.long v), none, some (.int (nI k)), none, none, none] (fun _ => rfl) (fun _ => (Nat.le_of_ble_eq_true rfl)) ?_
  have loop : ∀ (q i : Nat), i + q = k → Wp l D YX7_power (pRm 1 0 0) h.length (fun _ _ _ => True) (mE D h.length 0 0 (some (.long (lpow v k))) h) 5 [some (.long v), none, some (.int (nI k)), some (.long (lpow v i)), none, some (.int (nI i))] [] h 0 := by
    intro q
    induction q with
    | zero =>
      intro i hi
      have hi : i = k := by omega
      subst hi
      refine w_iload dX7_power_5 rfl ?_
      refine w_iload_n dX7_power_7 rfl ?_
      refine w_icmp_ge_t (tgt := 21) dX7_power_8 (by decide) (Int32.le_refl _) ?_
      refine w_lload_n dX7_power_21 rfl ?_
      exact w_lret dX7_power_22 rfl rfl rfl rfl (Nat.le_refl 0)
    | succ q ih =>
      intro i hi
      refine w_iload dX7_power_5 rfl ?_
      refine w_iload_n dX7_power_7 rfl ?_
      refine w_icmp_ge_f dX7_power_8 ⟨21, by decide⟩ (nI_ge (by omega) (by omega)) ?_
      refine w_lload_n dX7_power_11 rfl ?_
      refine w_lload_n dX7_power_12 rfl ?_
      refine w_lmul dX7_power_13 ?_
      refine w_lstore_3 dX7_power_14 (Nat.le_of_ble_eq_true rfl) rfl ?_
      refine w_iinc_5 (v := 1) dX7_power_15 (by decide) (Nat.le_of_ble_eq_true rfl) rfl ?_
      refine w_goto (tgt := 5) dX7_power_18 (by decide) ?_
      exact w_loc_5 (nI_1 i) (ih (i + 1) (by omega))
  refine w_lconst (v := 1) dX7_power_0 (by decide) ?_
  refine w_lstore_3 dX7_power_1 (Nat.le_of_ble_eq_true rfl) rfl ?_
  refine w_iconst (v := 0) dX7_power_2 (by decide) ?_
  refine w_istore_5 dX7_power_3 (Nat.le_of_ble_eq_true rfl) rfl ?_
  exact loop k 0 (by omega)

def onF (N : WS) (x s : Nat) (t : Nat) : Bool := iter (fun j a => a && !(!decide (j = s) && (sLiv N (nI j) && decide (nI t ≤ sFelt N (nI x) (nI j))))) 8 (decide (nI t ≤ sFelt N (nI x) (nI s)))
def mOnl (N : WS) (x s : Nat) : Int32 := lbGo (onF N x s) 9 0
theorem bif_z (p : Bool) : (bif p then (1 : Int32) else 0) = b2i p := by cases p <;> rfl
set_option maxRecDepth 100000 in
set_option maxHeartbeats 1000000 in
theorem pm_X7_only_a {l : Launch} {D : va_G} {h : PH} {M : MS} (hb : 38 < h.length) {N : WS} (hR : RB N (mbk M)) (hW : RW N M) (hN : NOk N) {x s : Nat} (hx : x < 6) (hs : s < 8) (hv : sLiv N (nI s) = true) : PM l D YX7_only 4 [.ref 28, .int (nI x), .int (nI s)] (mput h M) 0 0 (some (.int (mOnl N x s))) (mput h M) := by
  refine pm_of2 (n0 := h.length) kb_YX7_only (mlen hb) [some (.ref 28), some (.int (nI x)), some (.int (nI s)), none, none, none] (fun _ => rfl) (fun _ => (Nat.le_of_ble_eq_true rfl)) ?_
  have inner : ∀ (t : Nat), (∀ o, Wp l D YX7_only (pRm 4 0 0) h.length (fun _ _ _ => True) (mE D h.length 0 0 (some (.int (mOnl N x s))) (mput h M)) 116 [some (.ref 28), some (.int (nI x)), some (.int (nI s)), some (.int (nI t)), some (.int (b2i (onF N x s t))), o] [] (mput h M) 0) → ∀ (k j : Nat), j + k = 8 → Wp l D YX7_only (pRm 4 0 0) h.length (fun _ _ _ => True) (mE D h.length 0 0 (some (.int (mOnl N x s))) (mput h M)) 55 [some (.ref 28), some (.int (nI x)), some (.int (nI s)), some (.int (nI t)), some (.int (b2i (iter (fun j a => a && !(!decide (j = s) && (sLiv N (nI j) && decide (nI t ≤ sFelt N (nI x) (nI j))))) j (decide (nI t ≤ sFelt N (nI x) (nI s)))))), some (.int (nI j))] [] (mput h M) 0 := by
    intro t out k
    induction k with
    | zero =>
      intro j hj
      have hj : j = 8 := by omega
      subst hj
      refine w_iload dX7_only_55 rfl ?_
      refine w_bipush (v := 8) dX7_only_57 (by decide) ?_
      refine w_icmp_ge_t (tgt := 116) dX7_only_59 (by decide) (Int32.le_refl _) ?_
      exact out _
    | succ k ih =>
      intro j hj
      have eB := iter_s (fun j a => a && !(!decide (j = s) && (sLiv N (nI j) && decide (nI t ≤ sFelt N (nI x) (nI j))))) j (decide (nI t ≤ sFelt N (nI x) (nI s)))
      generalize (iter (fun j a => a && !(!decide (j = s) && (sLiv N (nI j) && decide (nI t ≤ sFelt N (nI x) (nI j))))) j (decide (nI t ≤ sFelt N (nI x) (nI s)))) = a at eB ⊢
      refine w_iload dX7_only_55 rfl ?_
      refine w_bipush (v := 8) dX7_only_57 (by decide) ?_
      refine w_icmp_ge_f dX7_only_59 ⟨116, by decide⟩ (lp_g hj (by decide) rfl) ?_
      refine w_iload dX7_only_62 rfl ?_
      refine w_ztif_eq (a := ?a64_1) (b := ?b64_1) (pJ := 108) (tgt := 107) dX7_only_64 (by decide) (fun c_64 k => ?hA64_1) (fun c_64 k => ?hB64_1) ?hk64_1
      case hA64_1 =>
        refine w_iconst (v := 0) dX7_only_107 (by decide) ?_
        exact k
      case hB64_1 =>
        refine w_iload dX7_only_67 rfl ?_
        refine w_iload_n dX7_only_69 rfl ?_
        refine w_ticmp_eq (a := ?a70_2) (b := ?b70_2) (pJ := 108) (tgt := 103) dX7_only_70 (by decide) (fun c_70 k => ?hA70_2) (fun c_70 k => ?hB70_2) ?hk70_2
        case hA70_2 =>
          refine w_iconst (v := 1) dX7_only_103 (by decide) ?_
          refine w_goto (tgt := 108) dX7_only_104 (by decide) ?_
          exact k
        case hB70_2 =>
          refine w_aload_n dX7_only_73 rfl ?_
          refine w_iload dX7_only_74 rfl ?_
          refine w_callVr dX7_only_76 k_X7_117 (pm_X7_lives hb hR) rfl rfl (mg0 hb) rfl (Nat.le_of_ble_eq_true rfl) (Nat.le_of_ble_eq_true rfl) (Nat.le_of_ble_eq_true rfl) (rc00 (mlen hb) (Nat.le_refl 0)) ?_
          refine w_ztif_eq (a := ?a79_3) (b := ?b79_3) (pJ := 108) (tgt := 103) dX7_only_79 (by decide) (fun c_79 k => ?hA79_3) (fun c_79 k => ?hB79_3) ?hk79_3
          case hA79_3 =>
            refine w_iconst (v := 1) dX7_only_103 (by decide) ?_
            refine w_goto (tgt := 108) dX7_only_104 (by decide) ?_
            exact k
          case hB79_3 =>
            refine w_aload_n dX7_only_82 rfl ?_
            refine w_get dX7_only_83 f_X7_7 (mg0 hb) rfl ?_
            refine w_iload dX7_only_86 rfl ?_
            refine w_ialdN (k := j) dX7_only_88 (mg_bk hb) rfl (by omega) (kk := ?_)
            rw [(hR.1 j (by omega)).1]
            refine w_aload_n dX7_only_89 rfl ?_
            refine w_get dX7_only_90 f_X7_16 (mg0 hb) rfl ?_
            refine w_iload_n dX7_only_93 rfl ?_
            refine w_ialdN (k := x) dX7_only_94 (mg_wn hb) rfl (by omega) (kk := ?_)
            rw [(hW x hx).1]
            refine w_iand dX7_only_95 ?_
            refine w_callSr dX7_only_96 k_X7_53 (pm_X7_bits) rfl rfl (Nat.le_of_ble_eq_true rfl) (Nat.le_of_ble_eq_true rfl) (Nat.le_of_ble_eq_true rfl) (rc00 (mlen hb) (Nat.le_refl 0)) ?_
            rw [felt_mb hN hx (show j < 8 by omega)]
            refine w_iload_n dX7_only_99 rfl ?_
            refine w_ticmp_ge (a := ?a100_4) (b := ?b100_4) (pJ := 108) (tgt := 107) dX7_only_100 (by decide) (fun c_100 k => ?hA100_4) (fun c_100 k => ?hB100_4) ?hk100_4
            case hA100_4 =>
              refine w_iconst (v := 0) dX7_only_107 (by decide) ?_
              exact k
            case hB100_4 =>
              refine w_iconst (v := 1) dX7_only_103 (by decide) ?_
              refine w_goto (tgt := 108) dX7_only_104 (by decide) ?_
              exact k
            exact k
          exact k
        exact k
      refine w_istore_4 dX7_only_108 (Nat.le_of_ble_eq_true rfl) rfl ?_
      refine w_iinc_5 (v := 1) dX7_only_110 (by decide) (Nat.le_of_ble_eq_true rfl) rfl ?_
      refine w_goto (tgt := 55) dX7_only_113 (by decide) ?_
      refine w_loc_5 (nI_1 j) (w_loc_4 ?_ (ih (j + 1) (by omega)))
      rw [eB]
      have hjs : (nI j = nI s) = (j = s) := propext (nI_eq (by omega) (by omega))
      cases a
      · rfl
      · by_cases q1 : j = s
        · simp [q1, b2i]
        · cases sLiv N (nI j) <;> by_cases q2 : nI t ≤ sFelt N (nI x) (nI j) <;> simp [hjs, q1, q2, b2i]
  have loop : ∀ (k t : Nat), t + k = 9 → ∀ o1 o2, lbGo (onF N x s) k t = mOnl N x s → Wp l D YX7_only (pRm 4 0 0) h.length (fun _ _ _ => True) (mE D h.length 0 0 (some (.int (mOnl N x s))) (mput h M)) 19 [some (.ref 28), some (.int (nI x)), some (.int (nI s)), some (.int (nI t)), o1, o2] [] (mput h M) 0 := by
    intro k
    induction k with
    | zero =>
      intro t ht o1 o2 hr
      have ht : t = 9 := by omega
      subst ht
      refine w_iload_n dX7_only_19 rfl ?_
      refine w_bipush (v := 9) dX7_only_20 (by decide) ?_
      refine w_icmp_ge_t (tgt := 129) dX7_only_22 (by decide) (Int32.le_refl _) ?_
      refine w_bipush (v := (-6)) dX7_only_129 (by decide) ?_
      exact w_iret dX7_only_131 rfl (by rw [← hr]; rfl) rfl (mlen hb) (Nat.le_refl 0)
    | succ k ih =>
      intro t ht o1 o2 hr
      rw [lbGo] at hr
      refine w_iload_n dX7_only_19 rfl ?_
      refine w_bipush (v := 9) dX7_only_20 (by decide) ?_
      refine w_icmp_ge_f dX7_only_22 ⟨129, by decide⟩ (lp_g ht (by decide) rfl) ?_
      refine w_aload_n dX7_only_25 rfl ?_
      refine w_get dX7_only_26 f_X7_7 (mg0 hb) rfl ?_
      refine w_iload_n dX7_only_29 rfl ?_
      refine w_ialdN (k := s) dX7_only_30 (mg_bk hb) rfl (by omega) (kk := ?_)
      rw [(hR.1 s hs).1]
      refine w_aload_n dX7_only_31 rfl ?_
      refine w_get dX7_only_32 f_X7_16 (mg0 hb) rfl ?_
      refine w_iload_n dX7_only_35 rfl ?_
      refine w_ialdN (k := x) dX7_only_36 (mg_wn hb) rfl (by omega) (kk := ?_)
      rw [(hW x hx).1]
      refine w_iand dX7_only_37 ?_
      refine w_callSr dX7_only_38 k_X7_53 (pm_X7_bits) rfl rfl (Nat.le_of_ble_eq_true rfl) (Nat.le_of_ble_eq_true rfl) (Nat.le_of_ble_eq_true rfl) (rc00 (mlen hb) (Nat.le_refl 0)) ?_
      rw [felt_mb hN hx hs]
      refine w_iload_n dX7_only_41 rfl ?_
      refine w_ticmp_lt (a := ?a42_5) (b := ?b42_5) (pJ := 50) (tgt := 49) dX7_only_42 (by decide) (fun c_42 k => ?hA42_5) (fun c_42 k => ?hB42_5) ?hk42_5
      case hA42_5 =>
        refine w_iconst (v := 0) dX7_only_49 (by decide) ?_
        exact k
      case hB42_5 =>
        refine w_iconst (v := 1) dX7_only_45 (by decide) ?_
        refine w_goto (tgt := 50) dX7_only_46 (by decide) ?_
        exact k
      rw [lt_dec]
      refine w_istore_4 dX7_only_50 (Nat.le_of_ble_eq_true rfl) rfl ?_
      refine w_iconst (v := 0) dX7_only_52 (by decide) ?_
      refine w_istore_5 dX7_only_53 (Nat.le_of_ble_eq_true rfl) rfl ?_
      refine inner t (fun o => ?_) 8 0 rfl
      refine w_iload dX7_only_116 rfl ?_
      refine w_zif_eq (tgt := 123) dX7_only_118 (by decide) (fun c_118 => ?_) (fun c_118 => ?_)
      · skip
        refine w_iinc_3 (v := 1) dX7_only_123 (by decide) (Nat.le_of_ble_eq_true rfl) rfl ?_
        refine w_goto (tgt := 19) dX7_only_126 (by decide) ?_
        rw [if_neg (by rw [c_118]; decide)] at hr
        exact w_loc_3 (nI_1 t) (ih (t + 1) (by omega) _ _ hr)
      · skip
        refine w_iload_n dX7_only_121 rfl ?_
        exact w_iret dX7_only_122 rfl (by rw [if_pos c_118] at hr; exact hr) rfl (mlen hb) (Nat.le_refl 0)
  refine w_iload_n dX7_only_0 rfl ?_
  refine w_callSr dX7_only_1 k_X7_57 (pm_X7_isBox) rfl rfl (Nat.le_of_ble_eq_true rfl) (Nat.le_of_ble_eq_true rfl) (Nat.le_of_ble_eq_true rfl) (rc00 (mlen hb) (Nat.le_refl 0)) ?_
  refine w_zif_eq_f dX7_only_4 ⟨15, by decide⟩ (box_of hx) ?_
  refine w_aload_n dX7_only_7 rfl ?_
  refine w_iload_n dX7_only_8 rfl ?_
  refine w_callVr dX7_only_9 k_X7_117 (pm_X7_lives hb hR) rfl rfl (mg0 hb) rfl (Nat.le_of_ble_eq_true rfl) (Nat.le_of_ble_eq_true rfl) (Nat.le_of_ble_eq_true rfl) (rc00 (mlen hb) (Nat.le_refl 0)) ?_
  refine w_zif_ne_t (tgt := 17) dX7_only_12 (by decide) hv ?_
  refine w_iconst (v := 0) dX7_only_17 (by decide) ?_
  refine w_istore_3 dX7_only_18 (Nat.le_of_ble_eq_true rfl) rfl ?_
  exact loop 9 0 rfl _ _ rfl

set_option maxRecDepth 100000 in
set_option maxHeartbeats 1000000 in
theorem pm_X7_only_r {l : Launch} {D : va_G} {h : PH} {M : MS} (hb : 38 < h.length) {N : WS} (hR : RB N (mbk M)) {x s : Int32} (hn : (sBox x && sLiv N s) = false) : PM l D YX7_only 4 [.ref 28, .int x, .int s] (mput h M) 0 0 (some (.int (-1))) (mput h M) := by
  refine pm_of2 (n0 := h.length) kb_YX7_only (mlen hb) [some (.ref 28), some (.int x), some (.int s), none, none, none] (fun _ => rfl) (fun _ => (Nat.le_of_ble_eq_true rfl)) ?_
  refine w_iload_n dX7_only_0 rfl ?_
  refine w_callSr dX7_only_1 k_X7_57 (pm_X7_isBox) rfl rfl (Nat.le_of_ble_eq_true rfl) (Nat.le_of_ble_eq_true rfl) (Nat.le_of_ble_eq_true rfl) (rc00 (mlen hb) (Nat.le_refl 0)) ?_
  refine w_zif_eq (tgt := 15) dX7_only_4 (by decide) (fun c_4 => ?_) (fun c_4 => ?_)
  · skip
    refine w_iconst (v := (-1)) dX7_only_15 (by decide) ?_
    exact w_iret dX7_only_16 rfl rfl rfl (mlen hb) (Nat.le_refl 0)
  · skip
    refine w_aload_n dX7_only_7 rfl ?_
    refine w_iload_n dX7_only_8 rfl ?_
    refine w_callVr dX7_only_9 k_X7_117 (pm_X7_lives hb hR) rfl rfl (mg0 hb) rfl (Nat.le_of_ble_eq_true rfl) (Nat.le_of_ble_eq_true rfl) (Nat.le_of_ble_eq_true rfl) (rc00 (mlen hb) (Nat.le_refl 0)) ?_
    refine w_zif_ne (tgt := 17) dX7_only_12 (by decide) (fun c_12 => ?_) (fun c_12 => ?_)
    · skip
      simp only [*, Bool.and_self] at hn
      cases hn
    · skip
      refine w_iconst (v := (-1)) dX7_only_15 (by decide) ?_
      exact w_iret dX7_only_16 rfl rfl rfl (mlen hb) (Nat.le_refl 0)

set_option maxRecDepth 100000 in
set_option maxHeartbeats 1000000 in
theorem pm_X7_share_r {l : Launch} {D : va_G} {h : PH} {M : MS} (hb : 38 < h.length) {N : WS} (hR : RB N (mbk M)) {x s : Int32} (hn : (sBox x && sLiv N s) = false) : PM l D YX7_share 5 [.ref 28, .int x, .int s] (mput h M) 0 0 (some (.int (-1))) (mput h M) := by
  refine pm_of2 (n0 := h.length) kb_YX7_share (mlen hb) [some (.ref 28), some (.int x), some (.int s), none, none, none, none, none, none] (fun _ => rfl) (fun _ => (Nat.le_of_ble_eq_true rfl)) ?_
  refine w_iload_n dX7_share_0 rfl ?_
  refine w_callSr dX7_share_1 k_X7_57 (pm_X7_isBox) rfl rfl (Nat.le_of_ble_eq_true rfl) (Nat.le_of_ble_eq_true rfl) (Nat.le_of_ble_eq_true rfl) (rc00 (mlen hb) (Nat.le_refl 0)) ?_
  refine w_zif_eq (tgt := 15) dX7_share_4 (by decide) (fun c_4 => ?_) (fun c_4 => ?_)
  · skip
    refine w_iconst (v := (-1)) dX7_share_15 (by decide) ?_
    exact w_iret dX7_share_16 rfl rfl rfl (mlen hb) (Nat.le_refl 0)
  · skip
    refine w_aload_n dX7_share_7 rfl ?_
    refine w_iload_n dX7_share_8 rfl ?_
    refine w_callVr dX7_share_9 k_X7_117 (pm_X7_lives hb hR) rfl rfl (mg0 hb) rfl (Nat.le_of_ble_eq_true rfl) (Nat.le_of_ble_eq_true rfl) (Nat.le_of_ble_eq_true rfl) (rc00 (mlen hb) (Nat.le_refl 0)) ?_
    refine w_zif_ne (tgt := 17) dX7_share_12 (by decide) (fun c_12 => ?_) (fun c_12 => ?_)
    · skip
      simp only [*, Bool.and_self] at hn
      cases hn
    · skip
      refine w_iconst (v := (-1)) dX7_share_15 (by decide) ?_
      exact w_iret dX7_share_16 rfl rfl rfl (mlen hb) (Nat.le_refl 0)

set_option maxRecDepth 100000 in
set_option maxHeartbeats 1000000 in
theorem pm_X7_share_a {l : Launch} {D : va_G} {h : PH} {M : MS} (hb : 38 < h.length) {N : WS} (hR : RB N (mbk M)) (hW : RW N M) (hN : NOk N) {x s : Nat} (hx : x < 6) (hs : s < 8) (hv : sLiv N (nI s) = true) (h0 : ¬ sFelt N (nI x) (nI s) = 0 → ¬ sAll N (nI x) 8 = 0) : PM l D YX7_share 5 [.ref 28, .int (nI x), .int (nI s)] (mput h M) 0 0 (some (.int (if sFelt N (nI x) (nI s) = 0 then 0 else sShare N (nI x) (nI s)))) (mput h M) := by
  refine pm_of2 (n0 := h.length) kb_YX7_share (mlen hb) [some (.ref 28), some (.int (nI x)), some (.int (nI s)), none, none, none, none, none, none] (fun _ => rfl) (fun _ => (Nat.le_of_ble_eq_true rfl)) ?_
  have hfs : sFeelL N (nI x) s = sFelt N (nI x) (nI s) := by rw [sFeelL, if_pos hv]
  have hcx : (nI x).toNatClampNeg = x := cl8 (by omega)
  have loop2 : ¬ sFelt N (nI x) (nI s) = 0 → ∀ (k j : Nat), j + k = 8 → ∀ o, Wp l D YX7_share (pRm 5 0 0) h.length (fun _ _ _ => True) (mE D h.length 0 0 (some (.int (if sFelt N (nI x) (nI s) = 0 then 0 else sShare N (nI x) (nI s)))) (mput h M)) 78 [some (.ref 28), some (.int (nI x)), some (.int (nI s)), some (.int (wco N x)), some (.int (sAll N (nI x) 8)), some (.int (sOver N (nI x) j)), some (.int (sAhead N (nI x) (nI s) j)), some (.int (nI j)), o] [] (mput h M) 0 := by
    intro hf k
    have hz := h0 hf
    induction k with
    | zero =>
      intro j hj o
      have hj : j = 8 := by omega
      subst hj
      refine w_iload dX7_share_78 rfl ?_
      refine w_bipush (v := 8) dX7_share_80 (by decide) ?_
      refine w_icmp_ge_t (tgt := 168) dX7_share_82 (by decide) (Int32.le_refl _) ?_
      refine w_iload_n dX7_share_168 rfl ?_
      refine w_aload_n dX7_share_169 rfl ?_
      refine w_iload_n dX7_share_170 rfl ?_
      refine w_iload_n dX7_share_171 rfl ?_
      refine w_callVr dX7_share_172 k_X7_123 (pm_X7_feels hb hR hW hN (by omega) (by omega)) rfl rfl (mg0 hb) rfl (Nat.le_of_ble_eq_true rfl) (Nat.le_of_ble_eq_true rfl) (Nat.le_of_ble_eq_true rfl) (rc00 (mlen hb) (Nat.le_refl 0)) ?_
      refine w_imul dX7_share_175 ?_
      refine w_iload dX7_share_176 rfl ?_
      refine w_idiv dX7_share_178 hz ?_
      refine w_iload dX7_share_179 rfl ?_
      refine w_iload dX7_share_181 rfl ?_
      refine w_ticmp_ge (a := ?a183_1) (b := ?b183_1) (pJ := 191) (tgt := 190) dX7_share_183 (by decide) (fun c_183 k => ?hA183_1) (fun c_183 k => ?hB183_1) ?hk183_1
      case hA183_1 =>
        refine w_iconst (v := 0) dX7_share_190 (by decide) ?_
        exact k
      case hB183_1 =>
        refine w_iconst (v := 1) dX7_share_186 (by decide) ?_
        refine w_goto (tgt := 191) dX7_share_187 (by decide) ?_
        exact k
      refine w_iadd dX7_share_191 ?_
      exact w_iret dX7_share_192 rfl (by rw [if_neg hf, sShare, if_neg (fun q => Or.elim q hf hz), hfs, hcx, ite_le]) rfl (mlen hb) (Nat.le_refl 0)
    | succ k ih =>
      intro j hj o
      have e1 : sOver N (nI x) (j + 1) = sOver N (nI x) j - wco N (nI x).toNatClampNeg * sFeelL N (nI x) j / sAll N (nI x) 8 := iter_s _ _ _
      have e2 : sAhead N (nI x) (nI s) (j + 1) = if sFst N (nI x) (nI s) j then sAhead N (nI x) (nI s) j + 1 else sAhead N (nI x) (nI s) j := iter_s _ _ _
      rw [hcx] at e1
      refine w_iload dX7_share_78 rfl ?_
      refine w_bipush (v := 8) dX7_share_80 (by decide) ?_
      refine w_icmp_ge_f dX7_share_82 ⟨168, by decide⟩ (lp_g hj (by decide) rfl) ?_
      refine w_iload dX7_share_85 rfl ?_
      refine w_iload_n dX7_share_87 rfl ?_
      refine w_aload_n dX7_share_88 rfl ?_
      refine w_iload_n dX7_share_89 rfl ?_
      refine w_iload dX7_share_90 rfl ?_
      refine w_callVr dX7_share_92 k_X7_123 (pm_X7_feels hb hR hW hN (by omega) (by omega)) rfl rfl (mg0 hb) rfl (Nat.le_of_ble_eq_true rfl) (Nat.le_of_ble_eq_true rfl) (Nat.le_of_ble_eq_true rfl) (rc00 (mlen hb) (Nat.le_refl 0)) ?_
      refine w_imul dX7_share_95 ?_
      refine w_iload dX7_share_96 rfl ?_
      refine w_idiv dX7_share_98 hz ?_
      refine w_isub dX7_share_99 ?_
      refine w_istore_5 dX7_share_100 (Nat.le_of_ble_eq_true rfl) rfl ?_
      refine w_aload_n dX7_share_102 rfl ?_
      refine w_iload_n dX7_share_103 rfl ?_
      refine w_iload dX7_share_104 rfl ?_
      refine w_callVr dX7_share_106 k_X7_123 (pm_X7_feels hb hR hW hN (by omega) (by omega)) rfl rfl (mg0 hb) rfl (Nat.le_of_ble_eq_true rfl) (Nat.le_of_ble_eq_true rfl) (Nat.le_of_ble_eq_true rfl) (rc00 (mlen hb) (Nat.le_refl 0)) ?_
      refine w_aload_n dX7_share_109 rfl ?_
      refine w_iload_n dX7_share_110 rfl ?_
      refine w_iload_n dX7_share_111 rfl ?_
      refine w_callVr dX7_share_112 k_X7_123 (pm_X7_feels hb hR hW hN (by omega) (by omega)) rfl rfl (mg0 hb) rfl (Nat.le_of_ble_eq_true rfl) (Nat.le_of_ble_eq_true rfl) (Nat.le_of_ble_eq_true rfl) (rc00 (mlen hb) (Nat.le_refl 0)) ?_
      refine w_ticmp_gt (a := ?a115_2) (b := ?b115_2) (pJ := 145) (tgt := 140) dX7_share_115 (by decide) (fun c_115 k => ?hA115_2) (fun c_115 k => ?hB115_2) ?hk115_2
      case hA115_2 =>
        refine w_iconst (v := 1) dX7_share_140 (by decide) ?_
        refine w_goto (tgt := 145) dX7_share_141 (by decide) ?_
        exact k
      case hB115_2 =>
        refine w_aload_n dX7_share_118 rfl ?_
        refine w_iload_n dX7_share_119 rfl ?_
        refine w_iload dX7_share_120 rfl ?_
        refine w_callVr dX7_share_122 k_X7_123 (pm_X7_feels hb hR hW hN (by omega) (by omega)) rfl rfl (mg0 hb) rfl (Nat.le_of_ble_eq_true rfl) (Nat.le_of_ble_eq_true rfl) (Nat.le_of_ble_eq_true rfl) (rc00 (mlen hb) (Nat.le_refl 0)) ?_
        refine w_aload_n dX7_share_125 rfl ?_
        refine w_iload_n dX7_share_126 rfl ?_
        refine w_iload_n dX7_share_127 rfl ?_
        refine w_callVr dX7_share_128 k_X7_123 (pm_X7_feels hb hR hW hN (by omega) (by omega)) rfl rfl (mg0 hb) rfl (Nat.le_of_ble_eq_true rfl) (Nat.le_of_ble_eq_true rfl) (Nat.le_of_ble_eq_true rfl) (rc00 (mlen hb) (Nat.le_refl 0)) ?_
        refine w_ticmp_ne (a := ?a131_3) (b := ?b131_3) (pJ := 145) (tgt := 144) dX7_share_131 (by decide) (fun c_131 k => ?hA131_3) (fun c_131 k => ?hB131_3) ?hk131_3
        case hA131_3 =>
          refine w_iconst (v := 0) dX7_share_144 (by decide) ?_
          exact k
        case hB131_3 =>
          refine w_iload dX7_share_134 rfl ?_
          refine w_iload_n dX7_share_136 rfl ?_
          refine w_ticmp_ge (a := ?a137_4) (b := ?b137_4) (pJ := 145) (tgt := 144) dX7_share_137 (by decide) (fun c_137 k => ?hA137_4) (fun c_137 k => ?hB137_4) ?hk137_4
          case hA137_4 =>
            refine w_iconst (v := 0) dX7_share_144 (by decide) ?_
            exact k
          case hB137_4 =>
            refine w_iconst (v := 1) dX7_share_140 (by decide) ?_
            refine w_goto (tgt := 145) dX7_share_141 (by decide) ?_
            exact k
          exact k
        exact k
      refine w_top (y := b2i (sFst N (nI x) (nI s) j)) (by rw [hfs]; unfold sFst; by_cases q1 : sFelt N (nI x) (nI s) < sFeelL N (nI x) j <;> by_cases q2 : sFeelL N (nI x) j = sFelt N (nI x) (nI s) <;> by_cases q3 : nI j < nI s <;> simp [b2i, q1, q2, q3, ← Int32.not_lt]) ?_
      refine w_istore_8 dX7_share_145 (Nat.le_of_ble_eq_true rfl) rfl ?_
      refine w_iload dX7_share_147 rfl ?_
      refine w_iload dX7_share_149 rfl ?_
      refine w_ztif_eq (a := ?a151_5) (b := ?b151_5) (pJ := 159) (tgt := 158) dX7_share_151 (by decide) (fun c_151 k => ?hA151_5) (fun c_151 k => ?hB151_5) ?hk151_5
      case hA151_5 =>
        refine w_iconst (v := 0) dX7_share_158 (by decide) ?_
        exact k
      case hB151_5 =>
        refine w_iconst (v := 1) dX7_share_154 (by decide) ?_
        refine w_goto (tgt := 159) dX7_share_155 (by decide) ?_
        exact k
      refine w_iadd dX7_share_159 ?_
      refine w_istore_6 dX7_share_160 (Nat.le_of_ble_eq_true rfl) rfl ?_
      refine w_iinc_7 (v := 1) dX7_share_162 (by decide) (Nat.le_of_ble_eq_true rfl) rfl ?_
      refine w_goto (tgt := 78) dX7_share_165 (by decide) ?_
      refine w_loc_7 (nI_1 j) (w_loc_6 ?_ (w_loc_5 e1.symm (ih (j + 1) (by omega) _)))
      rw [e2]
      cases sFst N (nI x) (nI s) j
      · exact Int32.add_zero _
      · rfl
  have loop1 : ∀ (k j : Nat), j + k = 8 → Wp l D YX7_share (pRm 5 0 0) h.length (fun _ _ _ => True) (mE D h.length 0 0 (some (.int (if sFelt N (nI x) (nI s) = 0 then 0 else sShare N (nI x) (nI s)))) (mput h M)) 33 [some (.ref 28), some (.int (nI x)), some (.int (nI s)), some (.int (wco N x)), some (.int (sAll N (nI x) j)), some (.int (nI j)), none, none, none] [] (mput h M) 0 := by
    intro k
    induction k with
    | zero =>
      intro j hj
      have hj : j = 8 := by omega
      subst hj
      refine w_iload dX7_share_33 rfl ?_
      refine w_bipush (v := 8) dX7_share_35 (by decide) ?_
      refine w_icmp_ge_t (tgt := 58) dX7_share_37 (by decide) (Int32.le_refl _) ?_
      refine w_aload_n dX7_share_58 rfl ?_
      refine w_iload_n dX7_share_59 rfl ?_
      refine w_iload_n dX7_share_60 rfl ?_
      refine w_callVr dX7_share_61 k_X7_123 (pm_X7_feels hb hR hW hN (by omega) (by omega)) rfl rfl (mg0 hb) rfl (Nat.le_of_ble_eq_true rfl) (Nat.le_of_ble_eq_true rfl) (Nat.le_of_ble_eq_true rfl) (rc00 (mlen hb) (Nat.le_refl 0)) ?_
      refine w_if_ne (tgt := 69) dX7_share_64 (by decide) (fun c_64 => ?_) (fun c_64 => ?_)
      · skip
        refine w_iload_n dX7_share_69 rfl ?_
        refine w_istore_5 dX7_share_70 (Nat.le_of_ble_eq_true rfl) rfl ?_
        refine w_iconst (v := 0) dX7_share_72 (by decide) ?_
        refine w_istore_6 dX7_share_73 (Nat.le_of_ble_eq_true rfl) rfl ?_
        refine w_iconst (v := 0) dX7_share_75 (by decide) ?_
        refine w_istore_7 dX7_share_76 (Nat.le_of_ble_eq_true rfl) rfl ?_
        rw [hfs] at c_64
        have q9 := loop2 c_64 8 0 rfl none
        rw [show sOver N (nI x) 0 = wco N (nI x).toNatClampNeg from rfl, hcx] at q9
        exact q9
      · skip
        refine w_iconst (v := 0) dX7_share_67 (by decide) ?_
        exact w_iret dX7_share_68 rfl (by rw [hfs] at c_64; rw [if_pos c_64]) rfl (mlen hb) (Nat.le_refl 0)
    | succ k ih =>
      intro j hj
      have e1 : sAll N (nI x) (j + 1) = sAll N (nI x) j + sFeelL N (nI x) j := iter_s _ _ _
      refine w_iload dX7_share_33 rfl ?_
      refine w_bipush (v := 8) dX7_share_35 (by decide) ?_
      refine w_icmp_ge_f dX7_share_37 ⟨58, by decide⟩ (lp_g hj (by decide) rfl) ?_
      refine w_iload dX7_share_40 rfl ?_
      refine w_aload_n dX7_share_42 rfl ?_
      refine w_iload_n dX7_share_43 rfl ?_
      refine w_iload dX7_share_44 rfl ?_
      refine w_callVr dX7_share_46 k_X7_123 (pm_X7_feels hb hR hW hN (by omega) (by omega)) rfl rfl (mg0 hb) rfl (Nat.le_of_ble_eq_true rfl) (Nat.le_of_ble_eq_true rfl) (Nat.le_of_ble_eq_true rfl) (rc00 (mlen hb) (Nat.le_refl 0)) ?_
      refine w_iadd dX7_share_49 ?_
      refine w_istore_4 dX7_share_50 (Nat.le_of_ble_eq_true rfl) rfl ?_
      refine w_iinc_5 (v := 1) dX7_share_52 (by decide) (Nat.le_of_ble_eq_true rfl) rfl ?_
      refine w_goto (tgt := 33) dX7_share_55 (by decide) ?_
      exact w_loc_5 (nI_1 j) (w_loc_4 e1.symm (ih (j + 1) (by omega)))
  refine w_iload_n dX7_share_0 rfl ?_
  refine w_callSr dX7_share_1 k_X7_57 (pm_X7_isBox) rfl rfl (Nat.le_of_ble_eq_true rfl) (Nat.le_of_ble_eq_true rfl) (Nat.le_of_ble_eq_true rfl) (rc00 (mlen hb) (Nat.le_refl 0)) ?_
  refine w_zif_eq_f dX7_share_4 ⟨15, by decide⟩ (box_of hx) ?_
  refine w_aload_n dX7_share_7 rfl ?_
  refine w_iload_n dX7_share_8 rfl ?_
  refine w_callVr dX7_share_9 k_X7_117 (pm_X7_lives hb hR) rfl rfl (mg0 hb) rfl (Nat.le_of_ble_eq_true rfl) (Nat.le_of_ble_eq_true rfl) (Nat.le_of_ble_eq_true rfl) (rc00 (mlen hb) (Nat.le_refl 0)) ?_
  refine w_zif_ne_t (tgt := 17) dX7_share_12 (by decide) hv ?_
  refine w_aload_n dX7_share_17 rfl ?_
  refine w_get dX7_share_18 f_X7_7 (mg0 hb) rfl ?_
  refine w_bipush (v := 88) dX7_share_21 (by decide) ?_
  refine w_iload_n dX7_share_23 rfl ?_
  refine w_iadd dX7_share_24 ?_
  refine w_ialdN (k := (88 + x)) dX7_share_25 (mg_bk hb) (nadd rfl rfl) (by omega) (kk := ?_)
  rw [hR.2.2.1 x hx]
  refine w_istore_3 dX7_share_26 (Nat.le_of_ble_eq_true rfl) rfl ?_
  refine w_iconst (v := 0) dX7_share_27 (by decide) ?_
  refine w_istore_4 dX7_share_28 (Nat.le_of_ble_eq_true rfl) rfl ?_
  refine w_iconst (v := 0) dX7_share_30 (by decide) ?_
  refine w_istore_5 dX7_share_31 (Nat.le_of_ble_eq_true rfl) rfl ?_
  exact loop1 8 0 rfl

