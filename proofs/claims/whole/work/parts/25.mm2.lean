def unset (v : Nat) : Nat := ((List.range 8).filter (fun j => !v.testBit j)).length
theorem unset_or : ∀ v, v < 256 → ∀ a, a < 8 → v.testBit a = false → unset (v ||| 2 ^ a) + 1 = unset v := by decide +kernel
theorem unset_0 : ∀ v, v < 256 → unset v = 0 → ∀ a, a < 8 → v.testBit a = true := by decide +kernel
theorem or_lt8 {v a : Nat} (hv : v < 256) (ha : a < 8) : v ||| 2 ^ a < 256 := Nat.or_lt_two_pow (n := 8) hv (Nat.pow_lt_pow_right (by decide) ha)
theorem neg6 : ((-6 : Int32) < 0) := by decide
theorem neg6s : sSoul (-6) = false := by decide
set_option maxRecDepth 100000 in
set_option maxHeartbeats 4000000 in
theorem pm_X7_chain {l : Launch} {D : va_G} {h : PH} {M : MS} (hb : 38 < h.length) {N : WS} (hR : RB N (mbk M)) (hN : NOk N) {s w : Int32} : PM l D YX7_chain 3 [.ref 28, .int s, .int w] (mput h M) 0 0 (some (.int (cChR N s w))) (mput h M) := by
  refine pm_of2 (n0 := h.length) kb_YX7_chain (mlen hb) [some (.ref 28), some (.int s), some (.int w), none, none, none] (fun _ => rfl) (fun _ => (Nat.le_of_ble_eq_true rfl)) ?_
  cases hs : sSoul s with
  | false =>
    refine w_iload_n dX7_chain_0 rfl ?_
    refine w_callSr dX7_chain_1 k_X7_45 (pm_X7_isSoul) rfl rfl (Nat.le_of_ble_eq_true rfl) (Nat.le_of_ble_eq_true rfl) (Nat.le_of_ble_eq_true rfl) (rc00 (mlen hb) (Nat.le_refl 0)) ?_
    refine w_zif_ne_f dX7_chain_4 ⟨9, by decide⟩ hs ?_
    refine w_iconst (v := (-1)) dX7_chain_7 (by decide) ?_
    exact w_iret dX7_chain_8 rfl (by simp only [cChR, hs, Bool.false_eq_true, if_false]) rfl (mlen hb) (Nat.le_refl 0)
  | true =>
    cases hw : sIn w 0 1 with
    | false =>
      refine w_iload_n dX7_chain_0 rfl ?_
      refine w_callSr dX7_chain_1 k_X7_45 (pm_X7_isSoul) rfl rfl (Nat.le_of_ble_eq_true rfl) (Nat.le_of_ble_eq_true rfl) (Nat.le_of_ble_eq_true rfl) (rc00 (mlen hb) (Nat.le_refl 0)) ?_
      refine w_zif_ne_t (tgt := 9) dX7_chain_4 (by decide) hs ?_
      refine w_iload_n dX7_chain_9 rfl ?_
      refine w_iconst (v := 0) dX7_chain_10 (by decide) ?_
      refine w_iconst (v := 1) dX7_chain_11 (by decide) ?_
      refine w_callSr dX7_chain_12 k_X7_41 (pm_X7_in) rfl rfl (Nat.le_of_ble_eq_true rfl) (Nat.le_of_ble_eq_true rfl) (Nat.le_of_ble_eq_true rfl) (rc00 (mlen hb) (Nat.le_refl 0)) ?_
      refine w_zif_ne_f dX7_chain_15 ⟨21, by decide⟩ hw ?_
      refine w_bipush (v := (-2)) dX7_chain_18 (by decide) ?_
      exact w_iret dX7_chain_20 rfl (by simp only [cChR, hs, hw, Bool.false_eq_true, if_false, if_true]) rfl (mlen hb) (Nat.le_refl 0)
    | true =>
      obtain ⟨i, hi, rfl⟩ := soul_nI hs
      have loop : ∀ (k v : Nat) (la at_ : Int32), v < 256 → unset v ≤ k → (at_ = -6 ∨ ∃ a, a < 8 ∧ at_ = nI a) → chGo N k (nI v) la at_ = cCh N (nI i) → Wp l D YX7_chain (pRm 3 0 0) h.length (fun _ _ _ => True) (mE D h.length 0 0 (some (.int (cChR N (nI i) w))) (mput h M)) 40 [some (.ref 28), some (.int (nI i)), some (.int w), some (.int (nI v)), some (.int la), some (.int at_)] [] (mput h M) 0 := by
        intro k
        induction k with
        | zero =>
          intro v la at_ hv hu ha hr
          have hr : (nI v, la) = cCh N (nI i) := hr
          rcases ha with rfl | ⟨a, ha, rfl⟩
          · skip
            refine w_iload dX7_chain_40 rfl ?_
            refine w_if_lt_t (tgt := 80) dX7_chain_42 (by decide) neg6 ?_
            refine w_iload_n dX7_chain_80 rfl ?_
            refine w_tif_ne (a := ?a81_1) (b := ?b81_1) (pJ := 95) (tgt := 93) dX7_chain_81 (by decide) (fun c_81 k => ?hA81_1) (fun c_81 k => ?hB81_1) ?hk81_1
            case hA81_1 =>
              refine w_iload dX7_chain_93 rfl ?_
              exact k
            case hB81_1 =>
              refine w_iload_n dX7_chain_84 rfl ?_
              refine w_callSr dX7_chain_85 k_X7_53 (pm_X7_bits) rfl rfl (Nat.le_of_ble_eq_true rfl) (Nat.le_of_ble_eq_true rfl) (Nat.le_of_ble_eq_true rfl) (rc00 (mlen hb) (Nat.le_refl 0)) ?_
              refine w_iconst (v := 1) dX7_chain_88 (by decide) ?_
              refine w_isub dX7_chain_89 ?_
              refine w_goto (tgt := 95) dX7_chain_90 (by decide) ?_
              exact k
            exact w_iret dX7_chain_95 rfl (by rw [cChR, if_pos hs, if_pos hw, ← hr, mb_bc v hv]; try rfl) rfl (mlen hb) (Nat.le_refl 0)
          · skip
            refine w_iload dX7_chain_40 rfl ?_
            refine w_if_lt_f dX7_chain_42 ⟨80, by decide⟩ (nI_pos (by omega)) ?_
            refine w_iload_n dX7_chain_45 rfl ?_
            refine w_iload dX7_chain_46 rfl ?_
            refine w_callSr dX7_chain_48 k_X7_49 (pm_X7_has) rfl rfl (Nat.le_of_ble_eq_true rfl) (Nat.le_of_ble_eq_true rfl) (Nat.le_of_ble_eq_true rfl) (rc00 (mlen hb) (Nat.le_refl 0)) ?_
            refine w_zif_ne_t (tgt := 80) dX7_chain_51 (by decide) (by rw [bit_nI v hv a ha]; exact unset_0 v hv (by omega) a ha) ?_
            refine w_iload_n dX7_chain_80 rfl ?_
            refine w_tif_ne (a := ?a81_2) (b := ?b81_2) (pJ := 95) (tgt := 93) dX7_chain_81 (by decide) (fun c_81 k => ?hA81_2) (fun c_81 k => ?hB81_2) ?hk81_2
            case hA81_2 =>
              refine w_iload dX7_chain_93 rfl ?_
              exact k
            case hB81_2 =>
              refine w_iload_n dX7_chain_84 rfl ?_
              refine w_callSr dX7_chain_85 k_X7_53 (pm_X7_bits) rfl rfl (Nat.le_of_ble_eq_true rfl) (Nat.le_of_ble_eq_true rfl) (Nat.le_of_ble_eq_true rfl) (rc00 (mlen hb) (Nat.le_refl 0)) ?_
              refine w_iconst (v := 1) dX7_chain_88 (by decide) ?_
              refine w_isub dX7_chain_89 ?_
              refine w_goto (tgt := 95) dX7_chain_90 (by decide) ?_
              exact k
            exact w_iret dX7_chain_95 rfl (by rw [cChR, if_pos hs, if_pos hw, ← hr, mb_bc v hv]; try rfl) rfl (mlen hb) (Nat.le_refl 0)
        | succ k ih =>
          intro v la at_ hv hu ha hr
          rw [chGo] at hr
          rcases ha with rfl | ⟨a, ha, rfl⟩
          · rw [if_neg (by rw [neg6s]; decide)] at hr
            refine w_iload dX7_chain_40 rfl ?_
            refine w_if_lt_t (tgt := 80) dX7_chain_42 (by decide) neg6 ?_
            refine w_iload_n dX7_chain_80 rfl ?_
            refine w_tif_ne (a := ?a81_3) (b := ?b81_3) (pJ := 95) (tgt := 93) dX7_chain_81 (by decide) (fun c_81 k => ?hA81_3) (fun c_81 k => ?hB81_3) ?hk81_3
            case hA81_3 =>
              refine w_iload dX7_chain_93 rfl ?_
              exact k
            case hB81_3 =>
              refine w_iload_n dX7_chain_84 rfl ?_
              refine w_callSr dX7_chain_85 k_X7_53 (pm_X7_bits) rfl rfl (Nat.le_of_ble_eq_true rfl) (Nat.le_of_ble_eq_true rfl) (Nat.le_of_ble_eq_true rfl) (rc00 (mlen hb) (Nat.le_refl 0)) ?_
              refine w_iconst (v := 1) dX7_chain_88 (by decide) ?_
              refine w_isub dX7_chain_89 ?_
              refine w_goto (tgt := 95) dX7_chain_90 (by decide) ?_
              exact k
            exact w_iret dX7_chain_95 rfl (by rw [cChR, if_pos hs, if_pos hw, ← hr, mb_bc v hv]; try rfl) rfl (mlen hb) (Nat.le_refl 0)
          · rw [if_pos (soul_of ha), bit_nI v hv a ha] at hr
            cases hbit : v.testBit a with
            | true =>
              rw [if_pos hbit] at hr
              refine w_iload dX7_chain_40 rfl ?_
              refine w_if_lt_f dX7_chain_42 ⟨80, by decide⟩ (nI_pos (by omega)) ?_
              refine w_iload_n dX7_chain_45 rfl ?_
              refine w_iload dX7_chain_46 rfl ?_
              refine w_callSr dX7_chain_48 k_X7_49 (pm_X7_has) rfl rfl (Nat.le_of_ble_eq_true rfl) (Nat.le_of_ble_eq_true rfl) (Nat.le_of_ble_eq_true rfl) (rc00 (mlen hb) (Nat.le_refl 0)) ?_
              refine w_zif_ne_t (tgt := 80) dX7_chain_51 (by decide) (by rw [bit_nI v hv a ha]; exact hbit) ?_
              refine w_iload_n dX7_chain_80 rfl ?_
              refine w_tif_ne (a := ?a81_4) (b := ?b81_4) (pJ := 95) (tgt := 93) dX7_chain_81 (by decide) (fun c_81 k => ?hA81_4) (fun c_81 k => ?hB81_4) ?hk81_4
              case hA81_4 =>
                refine w_iload dX7_chain_93 rfl ?_
                exact k
              case hB81_4 =>
                refine w_iload_n dX7_chain_84 rfl ?_
                refine w_callSr dX7_chain_85 k_X7_53 (pm_X7_bits) rfl rfl (Nat.le_of_ble_eq_true rfl) (Nat.le_of_ble_eq_true rfl) (Nat.le_of_ble_eq_true rfl) (rc00 (mlen hb) (Nat.le_refl 0)) ?_
                refine w_iconst (v := 1) dX7_chain_88 (by decide) ?_
                refine w_isub dX7_chain_89 ?_
                refine w_goto (tgt := 95) dX7_chain_90 (by decide) ?_
                exact k
              exact w_iret dX7_chain_95 rfl (by rw [cChR, if_pos hs, if_pos hw, ← hr, mb_bc v hv]; try rfl) rfl (mlen hb) (Nat.le_refl 0)
            | false =>
              rw [if_neg (by rw [hbit]; decide), shl_nI a ha, nI_or, cl8 (by omega)] at hr
              have hu2 := unset_or v hv a ha hbit
              refine w_iload dX7_chain_40 rfl ?_
              refine w_if_lt_f dX7_chain_42 ⟨80, by decide⟩ (nI_pos (by omega)) ?_
              refine w_iload_n dX7_chain_45 rfl ?_
              refine w_iload dX7_chain_46 rfl ?_
              refine w_callSr dX7_chain_48 k_X7_49 (pm_X7_has) rfl rfl (Nat.le_of_ble_eq_true rfl) (Nat.le_of_ble_eq_true rfl) (Nat.le_of_ble_eq_true rfl) (rc00 (mlen hb) (Nat.le_refl 0)) ?_
              refine w_zif_ne_f dX7_chain_51 ⟨80, by decide⟩ (by rw [bit_nI v hv a ha]; exact hbit) ?_
              refine w_iload_n dX7_chain_54 rfl ?_
              refine w_iconst (v := 1) dX7_chain_55 (by decide) ?_
              refine w_iload dX7_chain_56 rfl ?_
              refine w_ishl dX7_chain_58 ?_
              refine w_ior dX7_chain_59 ?_
              refine w_istore_3 dX7_chain_60 (Nat.le_of_ble_eq_true rfl) rfl ?_
              refine w_iload dX7_chain_61 rfl ?_
              refine w_istore_4 dX7_chain_63 (Nat.le_of_ble_eq_true rfl) rfl ?_
              refine w_aload_n dX7_chain_65 rfl ?_
              refine w_get dX7_chain_66 f_X7_7 (mg0 hb) rfl ?_
              refine w_bipush (v := 16) dX7_chain_69 (by decide) ?_
              refine w_iload dX7_chain_71 rfl ?_
              refine w_iadd dX7_chain_73 ?_
              refine w_ialdN (k := (16 + a)) dX7_chain_74 (mg_bk hb) (nadd rfl rfl) (by omega) (kk := ?_)
              refine w_istore_5 dX7_chain_75 (Nat.le_of_ble_eq_true rfl) rfl ?_
              refine w_goto (tgt := 40) dX7_chain_77 (by decide) ?_
              rw [shl_nI a ha, nI_or, (hR.1 a ha).2.2]
              exact ih _ _ _ (or_lt8 hv ha) (by omega) (hN.1 a ha).2.2 hr
      refine w_iload_n dX7_chain_0 rfl ?_
      refine w_callSr dX7_chain_1 k_X7_45 (pm_X7_isSoul) rfl rfl (Nat.le_of_ble_eq_true rfl) (Nat.le_of_ble_eq_true rfl) (Nat.le_of_ble_eq_true rfl) (rc00 (mlen hb) (Nat.le_refl 0)) ?_
      refine w_zif_ne_t (tgt := 9) dX7_chain_4 (by decide) hs ?_
      refine w_iload_n dX7_chain_9 rfl ?_
      refine w_iconst (v := 0) dX7_chain_10 (by decide) ?_
      refine w_iconst (v := 1) dX7_chain_11 (by decide) ?_
      refine w_callSr dX7_chain_12 k_X7_41 (pm_X7_in) rfl rfl (Nat.le_of_ble_eq_true rfl) (Nat.le_of_ble_eq_true rfl) (Nat.le_of_ble_eq_true rfl) (rc00 (mlen hb) (Nat.le_refl 0)) ?_
      refine w_zif_ne_t (tgt := 21) dX7_chain_15 (by decide) hw ?_
      refine w_iconst (v := 1) dX7_chain_21 (by decide) ?_
      refine w_iload_n dX7_chain_22 rfl ?_
      refine w_ishl dX7_chain_23 ?_
      refine w_istore_3 dX7_chain_24 (Nat.le_of_ble_eq_true rfl) rfl ?_
      refine w_bipush (v := (-6)) dX7_chain_25 (by decide) ?_
      refine w_istore_4 dX7_chain_27 (Nat.le_of_ble_eq_true rfl) rfl ?_
      refine w_aload_n dX7_chain_29 rfl ?_
      refine w_get dX7_chain_30 f_X7_7 (mg0 hb) rfl ?_
      refine w_bipush (v := 16) dX7_chain_33 (by decide) ?_
      refine w_iload_n dX7_chain_35 rfl ?_
      refine w_iadd dX7_chain_36 ?_
      refine w_ialdN (k := (16 + i)) dX7_chain_37 (mg_bk hb) (nadd rfl rfl) (by omega) (kk := ?_)
      refine w_istore_5 dX7_chain_38 (Nat.le_of_ble_eq_true rfl) rfl ?_
      rw [shl_nI i hi, (hR.1 i hi).2.2]
      have hv : 2 ^ i < 2 ^ 8 := Nat.pow_lt_pow_right (by decide) hi
      exact loop 8 _ _ _ hv (Nat.le_trans (List.length_filter_le _ _) (by simp)) (hN.1 i hi).2.2 (by rw [cCh, shl_nI i hi, cl8 (by omega)])

def mBirD (i : Nat) (k : Nat) (b : Nat → Int32) : Nat → Int32 := iter (fun j f => upd (upd f (24 + 8 * i + j) 0) (24 + 8 * j + i) 0) k b
def mBir0 (b : Nat → Int32) (i : Nat) (q p : Int32) : Nat → Int32 := upd (upd (upd (upd b 94 (b 94 ||| (1 <<< (nI i &&& 31)))) i q) (8 + i) p) (16 + i) (-6)
def mBir (b : Nat → Int32) (i : Nat) (q p : Int32) : Nat → Int32 := mBirD i 8 (mBir0 b i q p)
set_option maxRecDepth 100000 in
set_option maxHeartbeats 4000000 in
theorem pm_X7_birth_r {l : Launch} {D : va_G} {h : PH} {M : MS} (hb : 38 < h.length) {s q p : Int32} (hn : (sSoul s && (sIn q 0 255 && sIn p 0 999)) = false) : PM l D YX7_birth 3 [.ref 28, .int s, .int q, .int p] (mput h M) 0 0 (some (.int (if sSoul s then -2 else -1))) (mput h M) := by
  refine pm_of2 (n0 := h.length) kb_YX7_birth (mlen hb) [some (.ref 28), some (.int s), some (.int q), some (.int p), none] (fun _ => rfl) (fun _ => (Nat.le_of_ble_eq_true rfl)) ?_
  refine w_iload_n dX7_birth_0 rfl ?_
  refine w_callSr dX7_birth_1 k_X7_45 (pm_X7_isSoul) rfl rfl (Nat.le_of_ble_eq_true rfl) (Nat.le_of_ble_eq_true rfl) (Nat.le_of_ble_eq_true rfl) (rc00 (mlen hb) (Nat.le_refl 0)) ?_
  refine w_zif_ne (tgt := 9) dX7_birth_4 (by decide) (fun c_4 => ?_) (fun c_4 => ?_)
  · skip
    refine w_iload_n dX7_birth_9 rfl ?_
    refine w_iconst (v := 0) dX7_birth_10 (by decide) ?_
    refine w_sipush (v := 255) dX7_birth_11 (by decide) ?_
    refine w_callSr dX7_birth_14 k_X7_41 (pm_X7_in) rfl rfl (Nat.le_of_ble_eq_true rfl) (Nat.le_of_ble_eq_true rfl) (Nat.le_of_ble_eq_true rfl) (rc00 (mlen hb) (Nat.le_refl 0)) ?_
    refine w_zif_eq (tgt := 31) dX7_birth_17 (by decide) (fun c_17 => ?_) (fun c_17 => ?_)
    · skip
      refine w_bipush (v := (-2)) dX7_birth_31 (by decide) ?_
      exact w_iret dX7_birth_33 rfl (by simp only [if_pos, if_neg, not_false_eq_true, if_true, if_false, Bool.false_eq_true, c_4, c_17]) rfl (mlen hb) (Nat.le_refl 0)
    · skip
      refine w_iload_n dX7_birth_20 rfl ?_
      refine w_iconst (v := 0) dX7_birth_21 (by decide) ?_
      refine w_sipush (v := 999) dX7_birth_22 (by decide) ?_
      refine w_callSr dX7_birth_25 k_X7_41 (pm_X7_in) rfl rfl (Nat.le_of_ble_eq_true rfl) (Nat.le_of_ble_eq_true rfl) (Nat.le_of_ble_eq_true rfl) (rc00 (mlen hb) (Nat.le_refl 0)) ?_
      refine w_zif_ne (tgt := 34) dX7_birth_28 (by decide) (fun c_28 => ?_) (fun c_28 => ?_)
      · skip
        simp only [*, Bool.and_true, Bool.true_and] at hn
        cases hn
      · skip
        refine w_bipush (v := (-2)) dX7_birth_31 (by decide) ?_
        exact w_iret dX7_birth_33 rfl (by simp only [if_pos, if_neg, not_false_eq_true, if_true, if_false, Bool.false_eq_true, c_4, c_17, c_28]) rfl (mlen hb) (Nat.le_refl 0)
  · skip
    refine w_iconst (v := (-1)) dX7_birth_7 (by decide) ?_
    exact w_iret dX7_birth_8 rfl (by simp only [if_pos, if_neg, not_false_eq_true, if_true, if_false, Bool.false_eq_true, c_4]) rfl (mlen hb) (Nat.le_refl 0)

set_option maxRecDepth 100000 in
set_option maxHeartbeats 4000000 in
theorem pm_X7_birth_a {l : Launch} {D : va_G} {h : PH} {M : MS} (hb : 38 < h.length) {i : Nat} {q p : Int32} (hi : i < 8) (h1 : sIn q 0 255 = true) (h2 : sIn p 0 999 = true) : PM l D YX7_birth 3 [.ref 28, .int (nI i), .int q, .int p] (mput h M) 0 0 (some (.int (mb (mBir (mbk M) i q p 94)))) (mput h (tbk M (mBir (mbk M) i q p))) := by
  refine pm_of2 (n0 := h.length) kb_YX7_birth (mlen hb) [some (.ref 28), some (.int (nI i)), some (.int q), some (.int p), none] (fun _ => rfl) (fun _ => (Nat.le_of_ble_eq_true rfl)) ?_
  have loop : ∀ (k j : Nat), j + k = 8 → Wp l D YX7_birth (pRm 3 0 0) h.length (fun _ _ _ => True) (mE D h.length 0 0 (some (.int (mb (mBir (mbk M) i q p 94)))) (mput h (tbk M (mBir (mbk M) i q p)))) 78 [some (.ref 28), some (.int (nI i)), some (.int q), some (.int p), some (.int (nI j))] [] (mput h (tbk M (mBirD i j (mBir0 (mbk M) i q p)))) 0 := by
    intro k
    induction k with
    | zero =>
      intro j hj
      have hj : j = 8 := by omega
      subst hj
      refine w_iload dX7_birth_78 rfl ?_
      refine w_bipush (v := 8) dX7_birth_80 (by decide) ?_
      refine w_icmp_ge_t (tgt := 123) dX7_birth_82 (by decide) (Int32.le_refl _) ?_
      refine w_aload_n dX7_birth_123 rfl ?_
      refine w_get dX7_birth_124 f_X7_7 (mg0 hb) rfl ?_
      refine w_bipush (v := 94) dX7_birth_127 (by decide) ?_
      refine w_ialdN (k := 94) dX7_birth_129 (mg_bk hb) rfl (by omega) (kk := ?_)
      refine w_callSr dX7_birth_130 k_X7_53 (pm_X7_bits) rfl rfl (Nat.le_of_ble_eq_true rfl) (Nat.le_of_ble_eq_true rfl) (Nat.le_of_ble_eq_true rfl) (rc00 (mlen hb) (Nat.le_refl 0)) ?_
      exact w_iret dX7_birth_133 rfl rfl rfl (mlen hb) (Nat.le_refl 0)
    | succ k ih =>
      intro j hj
      refine w_iload dX7_birth_78 rfl ?_
      refine w_bipush (v := 8) dX7_birth_80 (by decide) ?_
      refine w_icmp_ge_f dX7_birth_82 ⟨123, by decide⟩ (lp_g hj (by decide) rfl) ?_
      refine w_aload_n dX7_birth_85 rfl ?_
      refine w_get dX7_birth_86 f_X7_7 (mg0 hb) rfl ?_
      refine w_bipush (v := 24) dX7_birth_89 (by decide) ?_
      refine w_bipush (v := 8) dX7_birth_91 (by decide) ?_
      refine w_iload_n dX7_birth_93 rfl ?_
      refine w_imul dX7_birth_94 ?_
      refine w_iadd dX7_birth_95 ?_
      refine w_iload dX7_birth_96 rfl ?_
      refine w_iadd dX7_birth_98 ?_
      refine w_iconst (v := 0) dX7_birth_99 (by decide) ?_
      refine w_aMn_bk (k := ((24 + (8 * i)) + j)) dX7_birth_100 hb (nadd (nadd rfl (nmul rfl rfl)) rfl) (by omega) ?_
      refine w_aload_n dX7_birth_101 rfl ?_
      refine w_get dX7_birth_102 f_X7_7 (mg0 hb) rfl ?_
      refine w_bipush (v := 24) dX7_birth_105 (by decide) ?_
      refine w_bipush (v := 8) dX7_birth_107 (by decide) ?_
      refine w_iload dX7_birth_109 rfl ?_
      refine w_imul dX7_birth_111 ?_
      refine w_iadd dX7_birth_112 ?_
      refine w_iload_n dX7_birth_113 rfl ?_
      refine w_iadd dX7_birth_114 ?_
      refine w_iconst (v := 0) dX7_birth_115 (by decide) ?_
      refine w_aMn_bk (k := ((24 + (8 * j)) + i)) dX7_birth_116 hb (nadd (nadd rfl (nmul rfl rfl)) rfl) (by omega) ?_
      refine w_iinc_4 (v := 1) dX7_birth_117 (by decide) (Nat.le_of_ble_eq_true rfl) rfl ?_
      refine w_goto (tgt := 78) dX7_birth_120 (by decide) ?_
      exact w_loc_4 (nI_1 j) (ih (j + 1) (by omega))
  refine w_iload_n dX7_birth_0 rfl ?_
  refine w_callSr dX7_birth_1 k_X7_45 (pm_X7_isSoul) rfl rfl (Nat.le_of_ble_eq_true rfl) (Nat.le_of_ble_eq_true rfl) (Nat.le_of_ble_eq_true rfl) (rc00 (mlen hb) (Nat.le_refl 0)) ?_
  refine w_zif_ne_t (tgt := 9) dX7_birth_4 (by decide) (soul_of hi) ?_
  refine w_iload_n dX7_birth_9 rfl ?_
  refine w_iconst (v := 0) dX7_birth_10 (by decide) ?_
  refine w_sipush (v := 255) dX7_birth_11 (by decide) ?_
  refine w_callSr dX7_birth_14 k_X7_41 (pm_X7_in) rfl rfl (Nat.le_of_ble_eq_true rfl) (Nat.le_of_ble_eq_true rfl) (Nat.le_of_ble_eq_true rfl) (rc00 (mlen hb) (Nat.le_refl 0)) ?_
  refine w_zif_eq_f dX7_birth_17 ⟨31, by decide⟩ h1 ?_
  refine w_iload_n dX7_birth_20 rfl ?_
  refine w_iconst (v := 0) dX7_birth_21 (by decide) ?_
  refine w_sipush (v := 999) dX7_birth_22 (by decide) ?_
  refine w_callSr dX7_birth_25 k_X7_41 (pm_X7_in) rfl rfl (Nat.le_of_ble_eq_true rfl) (Nat.le_of_ble_eq_true rfl) (Nat.le_of_ble_eq_true rfl) (rc00 (mlen hb) (Nat.le_refl 0)) ?_
  refine w_zif_ne_t (tgt := 34) dX7_birth_28 (by decide) h2 ?_
  refine w_aload_n dX7_birth_34 rfl ?_
  refine w_get dX7_birth_35 f_X7_7 (mg0 hb) rfl ?_
  refine w_bipush (v := 94) dX7_birth_38 (by decide) ?_
  refine w_dup2 dX7_birth_40 rfl rfl ?_
  refine w_ialdN (k := 94) dX7_birth_41 (mg_bk hb) rfl (by omega) (kk := ?_)
  refine w_iconst (v := 1) dX7_birth_42 (by decide) ?_
  refine w_iload_n dX7_birth_43 rfl ?_
  refine w_ishl dX7_birth_44 ?_
  refine w_ior dX7_birth_45 ?_
  refine w_aMn_bk (k := 94) dX7_birth_46 hb rfl (by omega) ?_
  refine w_aload_n dX7_birth_47 rfl ?_
  refine w_get dX7_birth_48 f_X7_7 (mg0 hb) rfl ?_
  refine w_iload_n dX7_birth_51 rfl ?_
  refine w_iload_n dX7_birth_52 rfl ?_
  refine w_aMn_bk (k := i) dX7_birth_53 hb rfl (by omega) ?_
  refine w_aload_n dX7_birth_54 rfl ?_
  refine w_get dX7_birth_55 f_X7_7 (mg0 hb) rfl ?_
  refine w_bipush (v := 8) dX7_birth_58 (by decide) ?_
  refine w_iload_n dX7_birth_60 rfl ?_
  refine w_iadd dX7_birth_61 ?_
  refine w_iload_n dX7_birth_62 rfl ?_
  refine w_aMn_bk (k := (8 + i)) dX7_birth_63 hb (nadd rfl rfl) (by omega) ?_
  refine w_aload_n dX7_birth_64 rfl ?_
  refine w_get dX7_birth_65 f_X7_7 (mg0 hb) rfl ?_
  refine w_bipush (v := 16) dX7_birth_68 (by decide) ?_
  refine w_iload_n dX7_birth_70 rfl ?_
  refine w_iadd dX7_birth_71 ?_
  refine w_bipush (v := (-6)) dX7_birth_72 (by decide) ?_
  refine w_aMn_bk (k := (16 + i)) dX7_birth_74 hb (nadd rfl rfl) (by omega) ?_
  refine w_iconst (v := 0) dX7_birth_75 (by decide) ?_
  refine w_istore_4 dX7_birth_76 (Nat.le_of_ble_eq_true rfl) rfl ?_
  exact loop 8 0 rfl

set_option maxRecDepth 100000 in
set_option maxHeartbeats 4000000 in
theorem pm_X7_box_r {l : Launch} {D : va_G} {h : PH} {M : MS} (hb : 38 < h.length) {x q e c : Int32} (hn : (sBox x && (sIn q 0 255 && (sIn e 0 8 && sIn c 0 999))) = false) : PM l D YX7_box 3 [.ref 28, .int x, .int q, .int e, .int c] (mput h M) 0 0 (some (.int (if sBox x then -2 else -1))) (mput h M) := by
  refine pm_of2 (n0 := h.length) kb_YX7_box (mlen hb) [some (.ref 28), some (.int x), some (.int q), some (.int e), some (.int c), none] (fun _ => rfl) (fun _ => (Nat.le_of_ble_eq_true rfl)) ?_
  refine w_iload_n dX7_box_0 rfl ?_
  refine w_callSr dX7_box_1 k_X7_57 (pm_X7_isBox) rfl rfl (Nat.le_of_ble_eq_true rfl) (Nat.le_of_ble_eq_true rfl) (Nat.le_of_ble_eq_true rfl) (rc00 (mlen hb) (Nat.le_refl 0)) ?_
  refine w_zif_ne (tgt := 9) dX7_box_4 (by decide) (fun c_4 => ?_) (fun c_4 => ?_)
  · skip
    refine w_iload_n dX7_box_9 rfl ?_
    refine w_iconst (v := 0) dX7_box_10 (by decide) ?_
    refine w_sipush (v := 255) dX7_box_11 (by decide) ?_
    refine w_callSr dX7_box_14 k_X7_41 (pm_X7_in) rfl rfl (Nat.le_of_ble_eq_true rfl) (Nat.le_of_ble_eq_true rfl) (Nat.le_of_ble_eq_true rfl) (rc00 (mlen hb) (Nat.le_refl 0)) ?_
    refine w_zif_eq (tgt := 42) dX7_box_17 (by decide) (fun c_17 => ?_) (fun c_17 => ?_)
    · skip
      refine w_bipush (v := (-2)) dX7_box_42 (by decide) ?_
      exact w_iret dX7_box_44 rfl (by simp only [if_pos, if_neg, not_false_eq_true, if_true, if_false, Bool.false_eq_true, c_4, c_17]) rfl (mlen hb) (Nat.le_refl 0)
    · skip
      refine w_iload_n dX7_box_20 rfl ?_
      refine w_iconst (v := 0) dX7_box_21 (by decide) ?_
      refine w_bipush (v := 8) dX7_box_22 (by decide) ?_
      refine w_callSr dX7_box_24 k_X7_41 (pm_X7_in) rfl rfl (Nat.le_of_ble_eq_true rfl) (Nat.le_of_ble_eq_true rfl) (Nat.le_of_ble_eq_true rfl) (rc00 (mlen hb) (Nat.le_refl 0)) ?_
      refine w_zif_eq (tgt := 42) dX7_box_27 (by decide) (fun c_27 => ?_) (fun c_27 => ?_)
      · skip
        refine w_bipush (v := (-2)) dX7_box_42 (by decide) ?_
        exact w_iret dX7_box_44 rfl (by simp only [if_pos, if_neg, not_false_eq_true, if_true, if_false, Bool.false_eq_true, c_4, c_17, c_27]) rfl (mlen hb) (Nat.le_refl 0)
      · skip
        refine w_iload dX7_box_30 rfl ?_
        refine w_iconst (v := 0) dX7_box_32 (by decide) ?_
        refine w_sipush (v := 999) dX7_box_33 (by decide) ?_
        refine w_callSr dX7_box_36 k_X7_41 (pm_X7_in) rfl rfl (Nat.le_of_ble_eq_true rfl) (Nat.le_of_ble_eq_true rfl) (Nat.le_of_ble_eq_true rfl) (rc00 (mlen hb) (Nat.le_refl 0)) ?_
        refine w_zif_ne (tgt := 45) dX7_box_39 (by decide) (fun c_39 => ?_) (fun c_39 => ?_)
        · skip
          simp only [*, Bool.and_true, Bool.true_and] at hn
          cases hn
        · skip
          refine w_bipush (v := (-2)) dX7_box_42 (by decide) ?_
          exact w_iret dX7_box_44 rfl (by simp only [if_pos, if_neg, not_false_eq_true, if_true, if_false, Bool.false_eq_true, c_4, c_17, c_27, c_39]) rfl (mlen hb) (Nat.le_refl 0)
  · skip
    refine w_iconst (v := (-1)) dX7_box_7 (by decide) ?_
    exact w_iret dX7_box_8 rfl (by simp only [if_pos, if_neg, not_false_eq_true, if_true, if_false, Bool.false_eq_true, c_4]) rfl (mlen hb) (Nat.le_refl 0)

set_option maxRecDepth 100000 in
set_option maxHeartbeats 4000000 in
theorem pm_X7_box_a {l : Launch} {D : va_G} {h : PH} {M : MS} (hb : 38 < h.length) {x : Nat} {q e c : Int32} (hx : x < 6) (h1 : sIn q 0 255 = true) (h2 : sIn e 0 8 = true) (h3 : sIn c 0 999 = true) : PM l D YX7_box 3 [.ref 28, .int (nI x), .int q, .int e, .int c] (mput h M) 0 0 (some (.int (mbk M (88 + x)))) (mput h (tbk (thi (twn M (upd (mwn M) x q)) (upd (mhi M) x e)) (upd (mbk M) (88 + x) c))) := by
  refine pm_of2 (n0 := h.length) kb_YX7_box (mlen hb) [some (.ref 28), some (.int (nI x)), some (.int q), some (.int e), some (.int c), none] (fun _ => rfl) (fun _ => (Nat.le_of_ble_eq_true rfl)) ?_
  refine w_iload_n dX7_box_0 rfl ?_
  refine w_callSr dX7_box_1 k_X7_57 (pm_X7_isBox) rfl rfl (Nat.le_of_ble_eq_true rfl) (Nat.le_of_ble_eq_true rfl) (Nat.le_of_ble_eq_true rfl) (rc00 (mlen hb) (Nat.le_refl 0)) ?_
  refine w_zif_ne_t (tgt := 9) dX7_box_4 (by decide) (box_of hx) ?_
  refine w_iload_n dX7_box_9 rfl ?_
  refine w_iconst (v := 0) dX7_box_10 (by decide) ?_
  refine w_sipush (v := 255) dX7_box_11 (by decide) ?_
  refine w_callSr dX7_box_14 k_X7_41 (pm_X7_in) rfl rfl (Nat.le_of_ble_eq_true rfl) (Nat.le_of_ble_eq_true rfl) (Nat.le_of_ble_eq_true rfl) (rc00 (mlen hb) (Nat.le_refl 0)) ?_
  refine w_zif_eq_f dX7_box_17 ⟨42, by decide⟩ h1 ?_
  refine w_iload_n dX7_box_20 rfl ?_
  refine w_iconst (v := 0) dX7_box_21 (by decide) ?_
  refine w_bipush (v := 8) dX7_box_22 (by decide) ?_
  refine w_callSr dX7_box_24 k_X7_41 (pm_X7_in) rfl rfl (Nat.le_of_ble_eq_true rfl) (Nat.le_of_ble_eq_true rfl) (Nat.le_of_ble_eq_true rfl) (rc00 (mlen hb) (Nat.le_refl 0)) ?_
  refine w_zif_eq_f dX7_box_27 ⟨42, by decide⟩ h2 ?_
  refine w_iload dX7_box_30 rfl ?_
  refine w_iconst (v := 0) dX7_box_32 (by decide) ?_
  refine w_sipush (v := 999) dX7_box_33 (by decide) ?_
  refine w_callSr dX7_box_36 k_X7_41 (pm_X7_in) rfl rfl (Nat.le_of_ble_eq_true rfl) (Nat.le_of_ble_eq_true rfl) (Nat.le_of_ble_eq_true rfl) (rc00 (mlen hb) (Nat.le_refl 0)) ?_
  refine w_zif_ne_t (tgt := 45) dX7_box_39 (by decide) h3 ?_
  refine w_aload_n dX7_box_45 rfl ?_
  refine w_get dX7_box_46 f_X7_7 (mg0 hb) rfl ?_
  refine w_bipush (v := 88) dX7_box_49 (by decide) ?_
  refine w_iload_n dX7_box_51 rfl ?_
  refine w_iadd dX7_box_52 ?_
  refine w_ialdN (k := (88 + x)) dX7_box_53 (mg_bk hb) (nadd rfl rfl) (by omega) (kk := ?_)
  refine w_istore_5 dX7_box_54 (Nat.le_of_ble_eq_true rfl) rfl ?_
  refine w_aload_n dX7_box_56 rfl ?_
  refine w_get dX7_box_57 f_X7_16 (mg0 hb) rfl ?_
  refine w_iload_n dX7_box_60 rfl ?_
  refine w_iload_n dX7_box_61 rfl ?_
  refine w_aMn_wn (k := x) dX7_box_62 hb rfl (by omega) ?_
  refine w_aload_n dX7_box_63 rfl ?_
  refine w_get dX7_box_64 f_X7_19 (mg0 hb) rfl ?_
  refine w_iload_n dX7_box_67 rfl ?_
  refine w_iload_n dX7_box_68 rfl ?_
  refine w_aMn_hi (k := x) dX7_box_69 hb rfl (by omega) ?_
  refine w_aload_n dX7_box_70 rfl ?_
  refine w_get dX7_box_71 f_X7_7 (mg0 hb) rfl ?_
  refine w_bipush (v := 88) dX7_box_74 (by decide) ?_
  refine w_iload_n dX7_box_76 rfl ?_
  refine w_iadd dX7_box_77 ?_
  refine w_iload dX7_box_78 rfl ?_
  refine w_aMn_bk (k := (88 + x)) dX7_box_80 hb (nadd rfl rfl) (by omega) ?_
  refine w_iload dX7_box_81 rfl ?_
  exact w_iret dX7_box_83 rfl rfl rfl (mlen hb) (Nat.le_refl 0)

def mSayM (M : MS) (c : Nat) (g : Int32) : MS := if sIn g 33 126 then (if c < 60 then tsn (tpd M (upd (mpd M) c g)) (nI c + 1) else M) else M
set_option maxRecDepth 100000 in
set_option maxHeartbeats 4000000 in
theorem pm_X7_say {l : Launch} {D : va_G} {h : PH} {M : MS} (hb : 38 < h.length) {c : Nat} (hc : c ≤ 60) (hs : msn M = nI c) {g : Int32} : PM l D YX7_say 2 [.ref 28, .int g] (mput h M) 0 0 (some (.int (cSayR (nI c) g))) (mput h (mSayM M c g)) := by
  refine pm_of2 (n0 := h.length) kb_YX7_say (mlen hb) [some (.ref 28), some (.int g)] (fun _ => rfl) (fun _ => (Nat.le_of_ble_eq_true rfl)) ?_
  by_cases h60 : c < 60
  · have h6 : ¬ nI c = 60 := fun e => by have := (nI_eq (a := c) (b := 60) (by omega) (by decide)).mp e; omega
    have h7 : nI c < 60 := nI_lt (b := 60) h60 (by decide)
    refine w_iload_n dX7_say_0 rfl ?_
    refine w_bipush (v := 33) dX7_say_1 (by decide) ?_
    refine w_bipush (v := 126) dX7_say_3 (by decide) ?_
    refine w_callSr dX7_say_5 k_X7_41 (pm_X7_in) rfl rfl (Nat.le_of_ble_eq_true rfl) (Nat.le_of_ble_eq_true rfl) (Nat.le_of_ble_eq_true rfl) (rc00 (mlen hb) (Nat.le_refl 0)) ?_
    refine w_zif_ne (tgt := 14) dX7_say_8 (by decide) (fun c_8 => ?_) (fun c_8 => ?_)
    · skip
      refine w_aload_n dX7_say_14 rfl ?_
      refine w_get dX7_say_15 f_X7_60 (mg0 hb) rfl ?_
      rw [hs]
      refine w_bipush (v := 60) dX7_say_18 (by decide) ?_
      refine w_icmp_ne_t (tgt := 26) dX7_say_20 (by decide) h6 ?_
      refine w_aload_n dX7_say_26 rfl ?_
      refine w_get dX7_say_27 f_X7_25 (mg0 hb) rfl ?_
      refine w_aload_n dX7_say_30 rfl ?_
      refine w_get dX7_say_31 f_X7_60 (mg0 hb) rfl ?_
      rw [hs]
      change Wp _ _ _ _ _ _ _ _ _ [.int (nI c), .ref 34] _ _
      refine w_iload_n dX7_say_34 rfl ?_
      refine w_aMn_pd (k := c) dX7_say_35 hb rfl h60 ?_
      refine w_aload_n dX7_say_36 rfl ?_
      refine w_dup dX7_say_37 rfl ?_
      refine w_get dX7_say_38 f_X7_60 (mg0 hb) rfl ?_
      change Wp _ _ _ _ _ _ _ _ _ [.int (msn M), .ref 28] _ _
      rw [hs]
      refine w_iconst (v := 1) dX7_say_41 (by decide) ?_
      refine w_iadd dX7_say_42 ?_
      refine w_pM6 dX7_say_43 f_X7_60 hb ?_
      refine w_aload_n dX7_say_46 rfl ?_
      refine w_get dX7_say_47 f_X7_60 (mg0 hb) rfl ?_
      exact w_iret dX7_say_50 rfl (by first | (rw [cSayR, if_pos c_8, if_pos h7]; try rfl) | (rw [cSayR, if_neg (by rw [c_8]; decide)])) (by first | (rw [mSayM, if_pos c_8, if_pos h60]; try rfl) | (rw [mSayM, if_neg (by rw [c_8]; decide)])) (mlen hb) (Nat.le_refl 0)
    · skip
      refine w_bipush (v := (-2)) dX7_say_11 (by decide) ?_
      exact w_iret dX7_say_13 rfl (by first | (rw [cSayR, if_pos c_8, if_pos h7]; try rfl) | (rw [cSayR, if_neg (by rw [c_8]; decide)])) (by first | (rw [mSayM, if_pos c_8, if_pos h60]; try rfl) | (rw [mSayM, if_neg (by rw [c_8]; decide)])) (mlen hb) (Nat.le_refl 0)
  have h6 : c = 60 := by omega
  subst h6
  refine w_iload_n dX7_say_0 rfl ?_
  refine w_bipush (v := 33) dX7_say_1 (by decide) ?_
  refine w_bipush (v := 126) dX7_say_3 (by decide) ?_
  refine w_callSr dX7_say_5 k_X7_41 (pm_X7_in) rfl rfl (Nat.le_of_ble_eq_true rfl) (Nat.le_of_ble_eq_true rfl) (Nat.le_of_ble_eq_true rfl) (rc00 (mlen hb) (Nat.le_refl 0)) ?_
  refine w_zif_ne (tgt := 14) dX7_say_8 (by decide) (fun c_8 => ?_) (fun c_8 => ?_)
  · skip
    refine w_aload_n dX7_say_14 rfl ?_
    refine w_get dX7_say_15 f_X7_60 (mg0 hb) rfl ?_
    rw [hs]
    refine w_bipush (v := 60) dX7_say_18 (by decide) ?_
    refine w_icmp_ne_f dX7_say_20 ⟨26, by decide⟩ rfl ?_
    refine w_bipush (v := (-4)) dX7_say_23 (by decide) ?_
    exact w_iret dX7_say_25 rfl (by first | (rw [cSayR, if_pos c_8]; try rfl) | (rw [cSayR, if_neg (by rw [c_8]; decide)])) (by first | (rw [mSayM, if_pos c_8]; try rfl) | (rw [mSayM, if_neg (by rw [c_8]; decide)])) (mlen hb) (Nat.le_refl 0)
  · skip
    refine w_bipush (v := (-2)) dX7_say_11 (by decide) ?_
    exact w_iret dX7_say_13 rfl (by first | (rw [cSayR, if_pos c_8]; try rfl) | (rw [cSayR, if_neg (by rw [c_8]; decide)])) (by first | (rw [mSayM, if_pos c_8]; try rfl) | (rw [mSayM, if_neg (by rw [c_8]; decide)])) (mlen hb) (Nat.le_refl 0)

set_option maxRecDepth 100000 in
set_option maxHeartbeats 4000000 in
theorem pm_X7_wipe {l : Launch} {D : va_G} {h : PH} {M : MS} (hb : 38 < h.length) : PM l D YX7_wipe 1 [.ref 28] (mput h M) 0 0 (some (.int (msn M))) (mput h (tsn M 0)) := by
  refine pm_of2 (n0 := h.length) kb_YX7_wipe (mlen hb) [some (.ref 28), none] (fun _ => rfl) (fun _ => (Nat.le_of_ble_eq_true rfl)) ?_
  refine w_aload_n dX7_wipe_0 rfl ?_
  refine w_get dX7_wipe_1 f_X7_60 (mg0 hb) rfl ?_
  refine w_istore_1 dX7_wipe_4 (Nat.le_of_ble_eq_true rfl) rfl ?_
  refine w_aload_n dX7_wipe_5 rfl ?_
  refine w_iconst (v := 0) dX7_wipe_6 (by decide) ?_
  refine w_pM6 dX7_wipe_7 f_X7_60 hb ?_
  refine w_iload_n dX7_wipe_10 rfl ?_
  exact w_iret dX7_wipe_11 rfl rfl rfl (mlen hb) (Nat.le_refl 0)

def mOk (a g : Int32) : Bool := if a = 0 then (sIn g 65 72 || decide (g = 46)) else if a = 1 then (sIn g 48 53 || (decide (g = 62) || decide (g = 61))) else if a = 2 then sIn g 65 72 else sIn g 49 57
def mNx (a g : Int32) : Int32 := if a = 0 then (if g = 46 then 0 else 1) else if a = 1 then (if g = 62 then 2 else if g = 61 then 3 else 0) else if a = 3 then 2 else 0
def mfgo (pd : Nat → Int32) : Nat → Nat → Int32 → Int32
  | 0, i, a => if a = 0 then -6 else nI i
  | k + 1, i, a => if mOk a (pd i) then mfgo pd k (i + 1) (mNx a (pd i)) else nI i
theorem ok_eq (a g : Int32) : (if a = 0 then (bif sIn g 65 72 then 1 else if g = 46 then 1 else 0) else if a = 1 then (bif sIn g 48 53 then 1 else if g = 62 then 1 else if g = 61 then 1 else 0) else if a = 2 then b2i (sIn g 65 72) else b2i (sIn g 49 57)) = b2i (mOk a g) := by
  unfold mOk
  by_cases h0 : a = 0
  · rw [if_pos h0, if_pos h0]
    cases sIn g 65 72 <;> by_cases h : g = 46 <;> simp [b2i, h]
  · rw [if_neg h0, if_neg h0]
    by_cases h1 : a = 1
    · rw [if_pos h1, if_pos h1]
      cases sIn g 48 53 <;> by_cases h : g = 62 <;> by_cases h3 : g = 61 <;> simp [b2i, h, h3]
    · rw [if_neg h1, if_neg h1]
      by_cases h2 : a = 2
      · rw [if_pos h2, if_pos h2]
      · rw [if_neg h2, if_neg h2]
set_option maxRecDepth 100000 in
set_option maxHeartbeats 4000000 in
theorem pm_X7_faultOf {l : Launch} {D : va_G} {h : PH} {M : MS} (hb : 38 < h.length) {c : Nat} (hc : c ≤ 60) (hs : msn M = nI c) : PM l D YX7_faultOf 3 [.ref 28] (mput h M) 0 0 (some (.int (mfgo (mpd M) c 0 0))) (mput h M) := by
  refine pm_of2 (n0 := h.length) kb_YX7_faultOf (mlen hb) [some (.ref 28), none, none, none, none] (fun _ => rfl) (fun _ => (Nat.le_of_ble_eq_true rfl)) ?_
  have loop : ∀ (k i : Nat), i + k = c → ∀ (a : Int32) (g o : Option Value), mfgo (mpd M) k i a = mfgo (mpd M) c 0 0 → Wp l D YX7_faultOf (pRm 3 0 0) h.length (fun _ _ _ => True) (mE D h.length 0 0 (some (.int (mfgo (mpd M) c 0 0))) (mput h M)) 4 [some (.ref 28), some (.int a), some (.int (nI i)), g, o] [] (mput h M) 0 := by
    intro k
    induction k with
    | zero =>
      intro i hi a g o hr
      have hi : i = c := by omega
      subst hi
      refine w_iload_n dX7_faultOf_4 rfl ?_
      refine w_aload_n dX7_faultOf_5 rfl ?_
      refine w_get dX7_faultOf_6 f_X7_60 (mg0 hb) rfl ?_
      refine w_icmp_ge_t (tgt := 173) dX7_faultOf_9 (by decide) (by rw [hs]; exact Int32.le_refl _) ?_
      refine w_iload_n dX7_faultOf_173 rfl ?_
      refine w_tif_ne (a := ?a174_1) (b := ?b174_1) (pJ := 186) (tgt := 182) dX7_faultOf_174 (by decide) (fun c_174 k => ?hA174_1) (fun c_174 k => ?hB174_1) ?hk174_1
      case hA174_1 =>
        refine w_aload_n dX7_faultOf_182 rfl ?_
        refine w_get dX7_faultOf_183 f_X7_60 (mg0 hb) rfl ?_
        exact k
      case hB174_1 =>
        refine w_bipush (v := (-6)) dX7_faultOf_177 (by decide) ?_
        refine w_goto (tgt := 186) dX7_faultOf_179 (by decide) ?_
        exact k
      exact w_iret dX7_faultOf_186 rfl (by rw [← hr, hs]; rfl) rfl (mlen hb) (Nat.le_refl 0)
    | succ k ih =>
      intro i hi a g o hr
      rw [mfgo] at hr
      refine w_iload_n dX7_faultOf_4 rfl ?_
      refine w_aload_n dX7_faultOf_5 rfl ?_
      refine w_get dX7_faultOf_6 f_X7_60 (mg0 hb) rfl ?_
      refine w_icmp_ge_f dX7_faultOf_9 ⟨173, by decide⟩ (by rw [hs]; exact nI_ge (by omega) (by omega)) ?_
      refine w_aload_n dX7_faultOf_12 rfl ?_
      refine w_get dX7_faultOf_13 f_X7_25 (mg0 hb) rfl ?_
      refine w_iload_n dX7_faultOf_16 rfl ?_
      refine w_ialdN (k := i) dX7_faultOf_17 (mg_pd hb) rfl (by omega) (kk := ?_)
      refine w_istore_3 dX7_faultOf_18 (Nat.le_of_ble_eq_true rfl) rfl ?_
      refine w_iload_n dX7_faultOf_19 rfl ?_
      refine w_tif_ne (a := ?a20_2) (b := ?b20_2) (pJ := 100) (tgt := 44) dX7_faultOf_20 (by decide) (fun c_20 k => ?hA20_2) (fun c_20 k => ?hB20_2) ?hk20_2
      case hA20_2 =>
        refine w_iload_n dX7_faultOf_44 rfl ?_
        refine w_iconst (v := 1) dX7_faultOf_45 (by decide) ?_
        refine w_ticmp_ne (a := ?a46_3) (b := ?b46_3) (pJ := 100) (tgt := 80) dX7_faultOf_46 (by decide) (fun c_46 k => ?hA46_3) (fun c_46 k => ?hB46_3) ?hk46_3
        case hA46_3 =>
          refine w_iload_n dX7_faultOf_80 rfl ?_
          refine w_iconst (v := 2) dX7_faultOf_81 (by decide) ?_
          refine w_ticmp_ne (a := ?a82_4) (b := ?b82_4) (pJ := 100) (tgt := 92) dX7_faultOf_82 (by decide) (fun c_82 k => ?hA82_4) (fun c_82 k => ?hB82_4) ?hk82_4
          case hA82_4 =>
            refine w_iload_n dX7_faultOf_92 rfl ?_
            refine w_bipush (v := 49) dX7_faultOf_93 (by decide) ?_
            refine w_bipush (v := 57) dX7_faultOf_95 (by decide) ?_
            refine w_callSr dX7_faultOf_97 k_X7_41 (pm_X7_in) rfl rfl (Nat.le_of_ble_eq_true rfl) (Nat.le_of_ble_eq_true rfl) (Nat.le_of_ble_eq_true rfl) (rc00 (mlen hb) (Nat.le_refl 0)) ?_
            exact k
          case hB82_4 =>
            refine w_iload_n dX7_faultOf_85 rfl ?_
            refine w_callSr dX7_faultOf_86 k_X7_64 (pm_X7_isLetter) rfl rfl (Nat.le_of_ble_eq_true rfl) (Nat.le_of_ble_eq_true rfl) (Nat.le_of_ble_eq_true rfl) (rc00 (mlen hb) (Nat.le_refl 0)) ?_
            refine w_goto (tgt := 100) dX7_faultOf_89 (by decide) ?_
            exact k
          exact k
        case hB46_3 =>
          refine w_iload_n dX7_faultOf_49 rfl ?_
          refine w_bipush (v := 48) dX7_faultOf_50 (by decide) ?_
          refine w_bipush (v := 53) dX7_faultOf_52 (by decide) ?_
          refine w_callSr dX7_faultOf_54 k_X7_41 (pm_X7_in) rfl rfl (Nat.le_of_ble_eq_true rfl) (Nat.le_of_ble_eq_true rfl) (Nat.le_of_ble_eq_true rfl) (rc00 (mlen hb) (Nat.le_refl 0)) ?_
          refine w_ztif_ne (a := ?a57_5) (b := ?b57_5) (pJ := 100) (tgt := 72) dX7_faultOf_57 (by decide) (fun c_57 k => ?hA57_5) (fun c_57 k => ?hB57_5) ?hk57_5
          case hA57_5 =>
            refine w_iconst (v := 1) dX7_faultOf_72 (by decide) ?_
            refine w_goto (tgt := 100) dX7_faultOf_73 (by decide) ?_
            exact k
          case hB57_5 =>
            refine w_iload_n dX7_faultOf_60 rfl ?_
            refine w_bipush (v := 62) dX7_faultOf_61 (by decide) ?_
            refine w_ticmp_eq (a := ?a63_6) (b := ?b63_6) (pJ := 100) (tgt := 72) dX7_faultOf_63 (by decide) (fun c_63 k => ?hA63_6) (fun c_63 k => ?hB63_6) ?hk63_6
            case hA63_6 =>
              refine w_iconst (v := 1) dX7_faultOf_72 (by decide) ?_
              refine w_goto (tgt := 100) dX7_faultOf_73 (by decide) ?_
              exact k
            case hB63_6 =>
              refine w_iload_n dX7_faultOf_66 rfl ?_
              refine w_bipush (v := 61) dX7_faultOf_67 (by decide) ?_
              refine w_ticmp_ne (a := ?a69_7) (b := ?b69_7) (pJ := 100) (tgt := 76) dX7_faultOf_69 (by decide) (fun c_69 k => ?hA69_7) (fun c_69 k => ?hB69_7) ?hk69_7
              case hA69_7 =>
                refine w_iconst (v := 0) dX7_faultOf_76 (by decide) ?_
                refine w_goto (tgt := 100) dX7_faultOf_77 (by decide) ?_
                exact k
              case hB69_7 =>
                refine w_iconst (v := 1) dX7_faultOf_72 (by decide) ?_
                refine w_goto (tgt := 100) dX7_faultOf_73 (by decide) ?_
                exact k
              exact k
            exact k
          exact k
        exact k
      case hB20_2 =>
        refine w_iload_n dX7_faultOf_23 rfl ?_
        refine w_callSr dX7_faultOf_24 k_X7_64 (pm_X7_isLetter) rfl rfl (Nat.le_of_ble_eq_true rfl) (Nat.le_of_ble_eq_true rfl) (Nat.le_of_ble_eq_true rfl) (rc00 (mlen hb) (Nat.le_refl 0)) ?_
        refine w_ztif_ne (a := ?a27_8) (b := ?b27_8) (pJ := 100) (tgt := 36) dX7_faultOf_27 (by decide) (fun c_27 k => ?hA27_8) (fun c_27 k => ?hB27_8) ?hk27_8
        case hA27_8 =>
          refine w_iconst (v := 1) dX7_faultOf_36 (by decide) ?_
          refine w_goto (tgt := 100) dX7_faultOf_37 (by decide) ?_
          exact k
        case hB27_8 =>
          refine w_iload_n dX7_faultOf_30 rfl ?_
          refine w_bipush (v := 46) dX7_faultOf_31 (by decide) ?_
          refine w_ticmp_ne (a := ?a33_9) (b := ?b33_9) (pJ := 100) (tgt := 40) dX7_faultOf_33 (by decide) (fun c_33 k => ?hA33_9) (fun c_33 k => ?hB33_9) ?hk33_9
          case hA33_9 =>
            refine w_iconst (v := 0) dX7_faultOf_40 (by decide) ?_
            refine w_goto (tgt := 100) dX7_faultOf_41 (by decide) ?_
            exact k
          case hB33_9 =>
            refine w_iconst (v := 1) dX7_faultOf_36 (by decide) ?_
            refine w_goto (tgt := 100) dX7_faultOf_37 (by decide) ?_
            exact k
          exact k
        exact k
      refine w_top (ok_eq _ _) ?_
      refine w_istore_4 dX7_faultOf_100 (Nat.le_of_ble_eq_true rfl) rfl ?_
      refine w_iload dX7_faultOf_102 rfl ?_
      refine w_zif_ne (tgt := 109) dX7_faultOf_104 (by decide) (fun c_104 => ?_) (fun c_104 => ?_)
      · skip
        refine w_iload_n dX7_faultOf_109 rfl ?_
        refine w_tif_ne (a := ?a110_10) (b := ?b110_10) (pJ := 166) (tgt := 127) dX7_faultOf_110 (by decide) (fun c_110 k => ?hA110_10) (fun c_110 k => ?hB110_10) ?hk110_10
        case hA110_10 =>
          refine w_iload_n dX7_faultOf_127 rfl ?_
          refine w_iconst (v := 1) dX7_faultOf_128 (by decide) ?_
          refine w_ticmp_ne (a := ?a129_11) (b := ?b129_11) (pJ := 166) (tgt := 156) dX7_faultOf_129 (by decide) (fun c_129 k => ?hA129_11) (fun c_129 k => ?hB129_11) ?hk129_11
          case hA129_11 =>
            refine w_iload_n dX7_faultOf_156 rfl ?_
            refine w_iconst (v := 3) dX7_faultOf_157 (by decide) ?_
            refine w_ticmp_ne (a := ?a158_12) (b := ?b158_12) (pJ := 166) (tgt := 165) dX7_faultOf_158 (by decide) (fun c_158 k => ?hA158_12) (fun c_158 k => ?hB158_12) ?hk158_12
            case hA158_12 =>
              refine w_iconst (v := 0) dX7_faultOf_165 (by decide) ?_
              exact k
            case hB158_12 =>
              refine w_iconst (v := 2) dX7_faultOf_161 (by decide) ?_
              refine w_goto (tgt := 166) dX7_faultOf_162 (by decide) ?_
              exact k
            exact k
          case hB129_11 =>
            refine w_iload_n dX7_faultOf_132 rfl ?_
            refine w_bipush (v := 62) dX7_faultOf_133 (by decide) ?_
            refine w_ticmp_ne (a := ?a135_13) (b := ?b135_13) (pJ := 166) (tgt := 142) dX7_faultOf_135 (by decide) (fun c_135 k => ?hA135_13) (fun c_135 k => ?hB135_13) ?hk135_13
            case hA135_13 =>
              refine w_iload_n dX7_faultOf_142 rfl ?_
              refine w_bipush (v := 61) dX7_faultOf_143 (by decide) ?_
              refine w_ticmp_ne (a := ?a145_14) (b := ?b145_14) (pJ := 166) (tgt := 152) dX7_faultOf_145 (by decide) (fun c_145 k => ?hA145_14) (fun c_145 k => ?hB145_14) ?hk145_14
              case hA145_14 =>
                refine w_iconst (v := 0) dX7_faultOf_152 (by decide) ?_
                refine w_goto (tgt := 166) dX7_faultOf_153 (by decide) ?_
                exact k
              case hB145_14 =>
                refine w_iconst (v := 3) dX7_faultOf_148 (by decide) ?_
                refine w_goto (tgt := 166) dX7_faultOf_149 (by decide) ?_
                exact k
              exact k
            case hB135_13 =>
              refine w_iconst (v := 2) dX7_faultOf_138 (by decide) ?_
              refine w_goto (tgt := 166) dX7_faultOf_139 (by decide) ?_
              exact k
            exact k
          exact k
        case hB110_10 =>
          refine w_iload_n dX7_faultOf_113 rfl ?_
          refine w_bipush (v := 46) dX7_faultOf_114 (by decide) ?_
          refine w_ticmp_ne (a := ?a116_15) (b := ?b116_15) (pJ := 166) (tgt := 123) dX7_faultOf_116 (by decide) (fun c_116 k => ?hA116_15) (fun c_116 k => ?hB116_15) ?hk116_15
          case hA116_15 =>
            refine w_iconst (v := 1) dX7_faultOf_123 (by decide) ?_
            refine w_goto (tgt := 166) dX7_faultOf_124 (by decide) ?_
            exact k
          case hB116_15 =>
            refine w_iconst (v := 0) dX7_faultOf_119 (by decide) ?_
            refine w_goto (tgt := 166) dX7_faultOf_120 (by decide) ?_
            exact k
          exact k
        refine w_istore_1 dX7_faultOf_166 (Nat.le_of_ble_eq_true rfl) rfl ?_
        refine w_iinc_2 (v := 1) dX7_faultOf_167 (by decide) (Nat.le_of_ble_eq_true rfl) rfl ?_
        refine w_goto (tgt := 4) dX7_faultOf_170 (by decide) ?_
        rw [if_pos c_104] at hr
        exact w_loc_2 (nI_1 i) (ih (i + 1) (by omega) _ _ _ hr)
      · skip
        refine w_iload_n dX7_faultOf_107 rfl ?_
        exact w_iret dX7_faultOf_108 rfl (by rw [if_neg (by rw [c_104]; decide)] at hr; exact hr) rfl (mlen hb) (Nat.le_refl 0)
  refine w_iconst (v := 0) dX7_faultOf_0 (by decide) ?_
  refine w_istore_1 dX7_faultOf_1 (Nat.le_of_ble_eq_true rfl) rfl ?_
  refine w_iconst (v := 0) dX7_faultOf_2 (by decide) ?_
  refine w_istore_2 dX7_faultOf_3 (Nat.le_of_ble_eq_true rfl) rfl ?_
  exact loop c 0 (by omega) 0 _ _ rfl

set_option maxRecDepth 100000 in
set_option maxHeartbeats 4000000 in
theorem pm_X7_fault {l : Launch} {D : va_G} {h : PH} {M : MS} (hb : 38 < h.length) {c : Nat} (hc : c ≤ 60) (hs : msn M = nI c) : PM l D YX7_fault 4 [.ref 28] (mput h M) 0 0 (some (.int (mfgo (mpd M) c 0 0))) (mput h M) := by
  refine pm_of2 (n0 := h.length) kb_YX7_fault (mlen hb) [some (.ref 28)] (fun _ => rfl) (fun _ => (Nat.le_of_ble_eq_true rfl)) ?_
  refine w_aload_n dX7_fault_0 rfl ?_
  refine w_callVr dX7_fault_1 k_X7_67 (pm_X7_faultOf hb hc hs) rfl rfl (mg0 hb) rfl (Nat.le_of_ble_eq_true rfl) (Nat.le_of_ble_eq_true rfl) (Nat.le_of_ble_eq_true rfl) (rc00 (mlen hb) (Nat.le_refl 0)) ?_
  exact w_iret dX7_fault_4 rfl rfl rfl (mlen hb) (Nat.le_refl 0)

