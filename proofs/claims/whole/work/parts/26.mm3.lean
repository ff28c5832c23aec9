theorem rem_nI {a d : Nat} {y : Int32} (hy : y = nI d) (ha : a < 2 ^ 31) (h0 : 0 < d) (hd : d < 2 ^ 31) : nI a - nI a / y * y = nI (a % d) := by rw [hy]; exact pk_rem ha h0 hd
theorem dvm_nI {a d : Nat} {y : Int32} (hy : y = nI d) (ha : a < 2 ^ 31) (h0 : 0 < d) (hd : d < 2 ^ 31) (hda : d ≤ a) : nI a / y - 1 = nI (a / d - 1) := by
  rw [hy, pk_div ha h0 hd, show (1 : Int32) = nI 1 from rfl, pk_sub (Nat.div_pos hda h0)]
theorem ne_nI {r n : Nat} {y : Int32} (hy : y = nI n) (hr : r < 2 ^ 31) (hn : n < 2 ^ 31) (h : r ≠ n) : ¬ nI r = y := by rw [hy]; exact fun z => h ((nI_eq hr hn).mp z)
theorem ge_nI {x : Int32} {n : Nat} (hn : n < 2 ^ 31) (h : nI n ≤ x) : ∃ a, a < 2 ^ 31 ∧ n ≤ a ∧ x = nI a := by
  obtain ⟨j, hj, rfl⟩ := nI_of (x := x) (fun z => absurd (Int32.lt_of_le_of_lt h z) (nI_pos hn))
  exact ⟨j, hj, (nI_leI hn hj).mp h, rfl⟩
set_option maxRecDepth 100000 in
set_option maxHeartbeats 4000000 in
theorem pm_X7_told {l : Launch} {D : va_G} {h : PH} {M : MS} (hb : 38 < h.length) {N : WS} (hR : RB N (mbk M)) (hW : RW N M) (hN : NOk N) (hg : msg M = wsg N) {w : Int32} : PM l D YX7_told 3 [.ref 28, .int w] (mput h M) 0 0 (some (.int (cTld N (msn M) w))) (mput h M) := by
  refine pm_of2 (n0 := h.length) kb_YX7_told (mlen hb) [some (.ref 28), some (.int w), none, none] (fun _ => rfl) (fun _ => (Nat.le_of_ble_eq_true rfl)) ?_
  by_cases h1 : w < 100
  · by_cases h2 : w < 10
    · skip
      by_cases a0 : w = 0
      · subst a0
        refine w_iload_n dX7_told_0 rfl ?_
        refine w_bipush (v := 100) dX7_told_1 (by decide) ?_
        refine w_icmp_lt_t (tgt := 47) dX7_told_3 (by decide) h1 ?_
        refine w_iload_n dX7_told_47 rfl ?_
        refine w_bipush (v := 10) dX7_told_48 (by decide) ?_
        refine w_icmp_lt_t (tgt := 119) dX7_told_50 (by decide) h2 ?_
        refine w_iload_n dX7_told_119 rfl ?_
        refine w_tableIn (tgt := 148) dX7_told_120 (by decide) (by decide) rfl (by decide) ?_
        refine w_aload_n dX7_told_148 rfl ?_
        refine w_get dX7_told_149 f_X7_60 (mg0 hb) rfl ?_
        exact w_iret dX7_told_152 rfl (by rw [cTld, if_pos h1, if_pos h2]; rfl) rfl (mlen hb) (Nat.le_refl 0)
      by_cases a1 : w = 1
      · subst a1
        refine w_iload_n dX7_told_0 rfl ?_
        refine w_bipush (v := 100) dX7_told_1 (by decide) ?_
        refine w_icmp_lt_t (tgt := 47) dX7_told_3 (by decide) h1 ?_
        refine w_iload_n dX7_told_47 rfl ?_
        refine w_bipush (v := 10) dX7_told_48 (by decide) ?_
        refine w_icmp_lt_t (tgt := 119) dX7_told_50 (by decide) h2 ?_
        refine w_iload_n dX7_told_119 rfl ?_
        refine w_tableIn (tgt := 153) dX7_told_120 (by decide) (by decide) rfl (by decide) ?_
        refine w_aload_n dX7_told_153 rfl ?_
        refine w_get dX7_told_154 f_X7_7 (mg0 hb) rfl ?_
        refine w_bipush (v := 94) dX7_told_157 (by decide) ?_
        refine w_ialdN (k := 94) dX7_told_159 (mg_bk hb) rfl (by omega) (kk := ?_)
        exact w_iret dX7_told_160 rfl (by rw [cTld, if_pos h1, if_pos h2, hR.2.2.2.1]; rfl) rfl (mlen hb) (Nat.le_refl 0)
      by_cases a2 : w = 2
      · subst a2
        refine w_iload_n dX7_told_0 rfl ?_
        refine w_bipush (v := 100) dX7_told_1 (by decide) ?_
        refine w_icmp_lt_t (tgt := 47) dX7_told_3 (by decide) h1 ?_
        refine w_iload_n dX7_told_47 rfl ?_
        refine w_bipush (v := 10) dX7_told_48 (by decide) ?_
        refine w_icmp_lt_t (tgt := 119) dX7_told_50 (by decide) h2 ?_
        refine w_iload_n dX7_told_119 rfl ?_
        refine w_tableIn (tgt := 161) dX7_told_120 (by decide) (by decide) rfl (by decide) ?_
        refine w_aload_n dX7_told_161 rfl ?_
        refine w_get dX7_told_162 f_X7_7 (mg0 hb) rfl ?_
        refine w_bipush (v := 95) dX7_told_165 (by decide) ?_
        refine w_ialdN (k := 95) dX7_told_167 (mg_bk hb) rfl (by omega) (kk := ?_)
        exact w_iret dX7_told_168 rfl (by rw [cTld, if_pos h1, if_pos h2, hR.2.2.2.2]; rfl) rfl (mlen hb) (Nat.le_refl 0)
      refine w_iload_n dX7_told_0 rfl ?_
      refine w_bipush (v := 100) dX7_told_1 (by decide) ?_
      refine w_icmp_lt_t (tgt := 47) dX7_told_3 (by decide) h1 ?_
      refine w_iload_n dX7_told_47 rfl ?_
      refine w_bipush (v := 10) dX7_told_48 (by decide) ?_
      refine w_icmp_lt_t (tgt := 119) dX7_told_50 (by decide) h2 ?_
      refine w_iload_n dX7_told_119 rfl ?_
      refine w_tableOut (tgt := 169) dX7_told_120 (out3 a0 a1 a2) (by decide) ?_
      refine w_iload_n dX7_told_169 rfl ?_
      refine w_iconst (v := 3) dX7_told_170 (by decide) ?_
      refine w_icmp_ne (tgt := 181) dX7_told_171 (by decide) (fun c_171 => ?_) (fun c_171 => ?_)
      · skip
        refine w_bipush (v := (-2)) dX7_told_181 (by decide) ?_
        exact w_iret dX7_told_183 rfl (by rw [cTld, if_pos h1, if_pos h2, if_neg a0, if_neg a1, if_neg a2]; first | (rw [if_pos c_171, hg]) | (rw [if_neg c_171])) rfl (mlen hb) (Nat.le_refl 0)
      · skip
        refine w_aload_n dX7_told_174 rfl ?_
        refine w_get dX7_told_175 f_X7_129 (mg0 hb) rfl ?_
        refine w_goto (tgt := 183) dX7_told_178 (by decide) ?_
        exact w_iret dX7_told_183 rfl (by rw [cTld, if_pos h1, if_pos h2, if_neg a0, if_neg a1, if_neg a2]; first | (rw [if_pos c_171, hg]) | (rw [if_neg c_171])) rfl (mlen hb) (Nat.le_refl 0)
    · obtain ⟨a, ha, ha2, rfl⟩ := ge_nI (n := 10) (by decide) (Int32.not_lt.mp h2)
      have e1 := dvm_nI (a := a) (d := 10) (y := 10) rfl ha (by decide) (by decide) ha2
      have e2 := rem_nI (a := a) (d := 10) (y := 10) rfl ha (by decide) (by decide)
      have e0 : cTld N (msn M) (nI a) = cTb N (nI (a / 10 - 1)) (nI (a % 10)) := by rw [cTld, if_pos h1, if_neg h2, jrem, e1, e2]
      have hr : a % 10 < 10 := Nat.mod_lt _ (by decide)
      generalize a / 10 - 1 = u at e0 e1 ⊢
      generalize a % 10 = r at e0 e2 hr ⊢
      cases hb2 : sBox (nI u) with
      | false =>
        refine w_iload_n dX7_told_0 rfl ?_
        refine w_bipush (v := 100) dX7_told_1 (by decide) ?_
        refine w_icmp_lt_t (tgt := 47) dX7_told_3 (by decide) h1 ?_
        refine w_iload_n dX7_told_47 rfl ?_
        refine w_bipush (v := 10) dX7_told_48 (by decide) ?_
        refine w_icmp_lt_f dX7_told_50 ⟨119, by decide⟩ h2 ?_
        refine w_iload_n dX7_told_53 rfl ?_
        refine w_bipush (v := 10) dX7_told_54 (by decide) ?_
        refine w_idiv dX7_told_56 (by decide) ?_
        refine w_iconst (v := 1) dX7_told_57 (by decide) ?_
        refine w_isub dX7_told_58 ?_
        rw [e1]
        refine w_istore_2 dX7_told_59 (Nat.le_of_ble_eq_true rfl) rfl ?_
        refine w_iload_n dX7_told_60 rfl ?_
        refine w_bipush (v := 10) dX7_told_61 (by decide) ?_
        refine w_irem dX7_told_63 (by decide) ?_
        rw [e2]
        refine w_istore_3 dX7_told_64 (Nat.le_of_ble_eq_true rfl) rfl ?_
        refine w_iload_n dX7_told_65 rfl ?_
        refine w_callSr dX7_told_66 k_X7_57 (pm_X7_isBox) rfl rfl (Nat.le_of_ble_eq_true rfl) (Nat.le_of_ble_eq_true rfl) (Nat.le_of_ble_eq_true rfl) (rc00 (mlen hb) (Nat.le_refl 0)) ?_
        refine w_zif_eq_t (tgt := 77) dX7_told_69 (by decide) hb2 ?_
        refine w_bipush (v := (-2)) dX7_told_77 (by decide) ?_
        refine w_goto (tgt := 118) dX7_told_79 (by decide) ?_
        exact w_iret dX7_told_118 rfl (by rw [e0, cTb, hb2]; rfl) rfl (mlen hb) (Nat.le_refl 0)
      | true =>
        obtain ⟨j, hj, e⟩ := box_nI hb2
        rw [e] at e0 e1
        by_cases q3 : 2 < r
        · skip
          refine w_iload_n dX7_told_0 rfl ?_
          refine w_bipush (v := 100) dX7_told_1 (by decide) ?_
          refine w_icmp_lt_t (tgt := 47) dX7_told_3 (by decide) h1 ?_
          refine w_iload_n dX7_told_47 rfl ?_
          refine w_bipush (v := 10) dX7_told_48 (by decide) ?_
          refine w_icmp_lt_f dX7_told_50 ⟨119, by decide⟩ h2 ?_
          refine w_iload_n dX7_told_53 rfl ?_
          refine w_bipush (v := 10) dX7_told_54 (by decide) ?_
          refine w_idiv dX7_told_56 (by decide) ?_
          refine w_iconst (v := 1) dX7_told_57 (by decide) ?_
          refine w_isub dX7_told_58 ?_
          rw [e1]
          refine w_istore_2 dX7_told_59 (Nat.le_of_ble_eq_true rfl) rfl ?_
          refine w_iload_n dX7_told_60 rfl ?_
          refine w_bipush (v := 10) dX7_told_61 (by decide) ?_
          refine w_irem dX7_told_63 (by decide) ?_
          rw [e2]
          refine w_istore_3 dX7_told_64 (Nat.le_of_ble_eq_true rfl) rfl ?_
          refine w_iload_n dX7_told_65 rfl ?_
          refine w_callSr dX7_told_66 k_X7_57 (pm_X7_isBox) rfl rfl (Nat.le_of_ble_eq_true rfl) (Nat.le_of_ble_eq_true rfl) (Nat.le_of_ble_eq_true rfl) (rc00 (mlen hb) (Nat.le_refl 0)) ?_
          refine w_zif_eq_f dX7_told_69 ⟨77, by decide⟩ (box_of hj) ?_
          refine w_iload_n dX7_told_72 rfl ?_
          refine w_iconst (v := 2) dX7_told_73 (by decide) ?_
          refine w_icmp_le_f dX7_told_74 ⟨82, by decide⟩ (nI_ge (a := 2) q3 (by omega)) ?_
          refine w_bipush (v := (-2)) dX7_told_77 (by decide) ?_
          refine w_goto (tgt := 118) dX7_told_79 (by decide) ?_
          exact w_iret dX7_told_118 rfl (by rw [e0, cTb, if_pos (box_of hj), if_neg (ne_nI (r := r) (n := 0) (y := 0) rfl (by omega) (by decide) (by omega)), if_neg (ne_nI (r := r) (n := 1) (y := 1) rfl (by omega) (by decide) (by omega)), if_neg (ne_nI (r := r) (n := 2) (y := 2) rfl (by omega) (by decide) (by omega))]) rfl (mlen hb) (Nat.le_refl 0)
        have q4 : r = 0 ∨ r = 1 ∨ r = 2 := by omega
        rcases q4 with rfl | rfl | rfl
        · skip
          refine w_iload_n dX7_told_0 rfl ?_
          refine w_bipush (v := 100) dX7_told_1 (by decide) ?_
          refine w_icmp_lt_t (tgt := 47) dX7_told_3 (by decide) h1 ?_
          refine w_iload_n dX7_told_47 rfl ?_
          refine w_bipush (v := 10) dX7_told_48 (by decide) ?_
          refine w_icmp_lt_f dX7_told_50 ⟨119, by decide⟩ h2 ?_
          refine w_iload_n dX7_told_53 rfl ?_
          refine w_bipush (v := 10) dX7_told_54 (by decide) ?_
          refine w_idiv dX7_told_56 (by decide) ?_
          refine w_iconst (v := 1) dX7_told_57 (by decide) ?_
          refine w_isub dX7_told_58 ?_
          rw [e1]
          refine w_istore_2 dX7_told_59 (Nat.le_of_ble_eq_true rfl) rfl ?_
          refine w_iload_n dX7_told_60 rfl ?_
          refine w_bipush (v := 10) dX7_told_61 (by decide) ?_
          refine w_irem dX7_told_63 (by decide) ?_
          rw [e2]
          refine w_istore_3 dX7_told_64 (Nat.le_of_ble_eq_true rfl) rfl ?_
          refine w_iload_n dX7_told_65 rfl ?_
          refine w_callSr dX7_told_66 k_X7_57 (pm_X7_isBox) rfl rfl (Nat.le_of_ble_eq_true rfl) (Nat.le_of_ble_eq_true rfl) (Nat.le_of_ble_eq_true rfl) (rc00 (mlen hb) (Nat.le_refl 0)) ?_
          refine w_zif_eq_f dX7_told_69 ⟨77, by decide⟩ (box_of hj) ?_
          refine w_iload_n dX7_told_72 rfl ?_
          refine w_iconst (v := 2) dX7_told_73 (by decide) ?_
          refine w_icmp_le_t (tgt := 82) dX7_told_74 (by decide) (by decide) ?_
          refine w_iload_n dX7_told_82 rfl ?_
          refine w_if_ne_f dX7_told_83 ⟨95, by decide⟩ rfl ?_
          refine w_aload_n dX7_told_86 rfl ?_
          refine w_get dX7_told_87 f_X7_16 (mg0 hb) rfl ?_
          refine w_iload_n dX7_told_90 rfl ?_
          refine w_ialdN (k := j) dX7_told_91 (mg_wn hb) rfl (by omega) (kk := ?_)
          refine w_goto (tgt := 118) dX7_told_92 (by decide) ?_
          exact w_iret dX7_told_118 rfl (by rw [e0, cTb, if_pos (box_of hj), cl8 (show j < 1000 by omega)]; exact (hW j hj).1) rfl (mlen hb) (Nat.le_refl 0)
        · skip
          refine w_iload_n dX7_told_0 rfl ?_
          refine w_bipush (v := 100) dX7_told_1 (by decide) ?_
          refine w_icmp_lt_t (tgt := 47) dX7_told_3 (by decide) h1 ?_
          refine w_iload_n dX7_told_47 rfl ?_
          refine w_bipush (v := 10) dX7_told_48 (by decide) ?_
          refine w_icmp_lt_f dX7_told_50 ⟨119, by decide⟩ h2 ?_
          refine w_iload_n dX7_told_53 rfl ?_
          refine w_bipush (v := 10) dX7_told_54 (by decide) ?_
          refine w_idiv dX7_told_56 (by decide) ?_
          refine w_iconst (v := 1) dX7_told_57 (by decide) ?_
          refine w_isub dX7_told_58 ?_
          rw [e1]
          refine w_istore_2 dX7_told_59 (Nat.le_of_ble_eq_true rfl) rfl ?_
          refine w_iload_n dX7_told_60 rfl ?_
          refine w_bipush (v := 10) dX7_told_61 (by decide) ?_
          refine w_irem dX7_told_63 (by decide) ?_
          rw [e2]
          refine w_istore_3 dX7_told_64 (Nat.le_of_ble_eq_true rfl) rfl ?_
          refine w_iload_n dX7_told_65 rfl ?_
          refine w_callSr dX7_told_66 k_X7_57 (pm_X7_isBox) rfl rfl (Nat.le_of_ble_eq_true rfl) (Nat.le_of_ble_eq_true rfl) (Nat.le_of_ble_eq_true rfl) (rc00 (mlen hb) (Nat.le_refl 0)) ?_
          refine w_zif_eq_f dX7_told_69 ⟨77, by decide⟩ (box_of hj) ?_
          refine w_iload_n dX7_told_72 rfl ?_
          refine w_iconst (v := 2) dX7_told_73 (by decide) ?_
          refine w_icmp_le_t (tgt := 82) dX7_told_74 (by decide) (by decide) ?_
          refine w_iload_n dX7_told_82 rfl ?_
          refine w_if_ne_t (tgt := 95) dX7_told_83 (by decide) (by decide) ?_
          refine w_iload_n dX7_told_95 rfl ?_
          refine w_iconst (v := 1) dX7_told_96 (by decide) ?_
          refine w_icmp_ne_f dX7_told_97 ⟨109, by decide⟩ rfl ?_
          refine w_aload_n dX7_told_100 rfl ?_
          refine w_get dX7_told_101 f_X7_19 (mg0 hb) rfl ?_
          refine w_iload_n dX7_told_104 rfl ?_
          refine w_ialdN (k := j) dX7_told_105 (mg_hi hb) rfl (by omega) (kk := ?_)
          refine w_goto (tgt := 118) dX7_told_106 (by decide) ?_
          exact w_iret dX7_told_118 rfl (by rw [e0, cTb, if_pos (box_of hj), cl8 (show j < 1000 by omega)]; exact (hW j hj).2) rfl (mlen hb) (Nat.le_refl 0)
        · skip
          refine w_iload_n dX7_told_0 rfl ?_
          refine w_bipush (v := 100) dX7_told_1 (by decide) ?_
          refine w_icmp_lt_t (tgt := 47) dX7_told_3 (by decide) h1 ?_
          refine w_iload_n dX7_told_47 rfl ?_
          refine w_bipush (v := 10) dX7_told_48 (by decide) ?_
          refine w_icmp_lt_f dX7_told_50 ⟨119, by decide⟩ h2 ?_
          refine w_iload_n dX7_told_53 rfl ?_
          refine w_bipush (v := 10) dX7_told_54 (by decide) ?_
          refine w_idiv dX7_told_56 (by decide) ?_
          refine w_iconst (v := 1) dX7_told_57 (by decide) ?_
          refine w_isub dX7_told_58 ?_
          rw [e1]
          refine w_istore_2 dX7_told_59 (Nat.le_of_ble_eq_true rfl) rfl ?_
          refine w_iload_n dX7_told_60 rfl ?_
          refine w_bipush (v := 10) dX7_told_61 (by decide) ?_
          refine w_irem dX7_told_63 (by decide) ?_
          rw [e2]
          refine w_istore_3 dX7_told_64 (Nat.le_of_ble_eq_true rfl) rfl ?_
          refine w_iload_n dX7_told_65 rfl ?_
          refine w_callSr dX7_told_66 k_X7_57 (pm_X7_isBox) rfl rfl (Nat.le_of_ble_eq_true rfl) (Nat.le_of_ble_eq_true rfl) (Nat.le_of_ble_eq_true rfl) (rc00 (mlen hb) (Nat.le_refl 0)) ?_
          refine w_zif_eq_f dX7_told_69 ⟨77, by decide⟩ (box_of hj) ?_
          refine w_iload_n dX7_told_72 rfl ?_
          refine w_iconst (v := 2) dX7_told_73 (by decide) ?_
          refine w_icmp_le_t (tgt := 82) dX7_told_74 (by decide) (by decide) ?_
          refine w_iload_n dX7_told_82 rfl ?_
          refine w_if_ne_t (tgt := 95) dX7_told_83 (by decide) (by decide) ?_
          refine w_iload_n dX7_told_95 rfl ?_
          refine w_iconst (v := 1) dX7_told_96 (by decide) ?_
          refine w_icmp_ne_t (tgt := 109) dX7_told_97 (by decide) (by decide) ?_
          refine w_aload_n dX7_told_109 rfl ?_
          refine w_get dX7_told_110 f_X7_7 (mg0 hb) rfl ?_
          refine w_bipush (v := 88) dX7_told_113 (by decide) ?_
          refine w_iload_n dX7_told_115 rfl ?_
          refine w_iadd dX7_told_116 ?_
          refine w_ialdN (k := (88 + j)) dX7_told_117 (mg_bk hb) (nadd rfl rfl) (by omega) (kk := ?_)
          exact w_iret dX7_told_118 rfl (by rw [e0, cTb, if_pos (box_of hj), cl8 (show j < 1000 by omega)]; exact hR.2.2.1 j hj) rfl (mlen hb) (Nat.le_refl 0)
  · obtain ⟨a, ha, ha2, rfl⟩ := ge_nI (n := 100) (by decide) (Int32.not_lt.mp h1)
    have e1 := dvm_nI (a := a) (d := 100) (y := 100) rfl ha (by decide) (by decide) ha2
    have e2 := rem_nI (a := a) (d := 100) (y := 100) rfl ha (by decide) (by decide)
    have e0 : cTld N (msn M) (nI a) = cTs N (nI (a / 100 - 1)) (nI (a % 100)) := by rw [cTld, if_neg h1, jrem, e1, e2]
    have hr : a % 100 < 100 := Nat.mod_lt _ (by decide)
    generalize a / 100 - 1 = u at e0 e1 ⊢
    generalize a % 100 = r at e0 e2 hr ⊢
    cases hb2 : sSoul (nI u) with
    | false =>
      refine w_iload_n dX7_told_0 rfl ?_
      refine w_bipush (v := 100) dX7_told_1 (by decide) ?_
      refine w_icmp_lt_f dX7_told_3 ⟨47, by decide⟩ h1 ?_
      refine w_iload_n dX7_told_6 rfl ?_
      refine w_bipush (v := 100) dX7_told_7 (by decide) ?_
      refine w_idiv dX7_told_9 (by decide) ?_
      refine w_iconst (v := 1) dX7_told_10 (by decide) ?_
      refine w_isub dX7_told_11 ?_
      rw [e1]
      refine w_istore_2 dX7_told_12 (Nat.le_of_ble_eq_true rfl) rfl ?_
      refine w_iload_n dX7_told_13 rfl ?_
      refine w_bipush (v := 100) dX7_told_14 (by decide) ?_
      refine w_irem dX7_told_16 (by decide) ?_
      rw [e2]
      refine w_istore_3 dX7_told_17 (Nat.le_of_ble_eq_true rfl) rfl ?_
      refine w_iload_n dX7_told_18 rfl ?_
      refine w_callSr dX7_told_19 k_X7_45 (pm_X7_isSoul) rfl rfl (Nat.le_of_ble_eq_true rfl) (Nat.le_of_ble_eq_true rfl) (Nat.le_of_ble_eq_true rfl) (rc00 (mlen hb) (Nat.le_refl 0)) ?_
      refine w_zif_eq_t (tgt := 44) dX7_told_22 (by decide) hb2 ?_
      refine w_bipush (v := (-2)) dX7_told_44 (by decide) ?_
      exact w_iret dX7_told_46 rfl (by rw [e0, cTs, hb2]; rfl) rfl (mlen hb) (Nat.le_refl 0)
    | true =>
      obtain ⟨j, hj, e⟩ := soul_nI hb2
      rw [e] at e0 e1
      by_cases q3 : 2 < r
      · skip
        refine w_iload_n dX7_told_0 rfl ?_
        refine w_bipush (v := 100) dX7_told_1 (by decide) ?_
        refine w_icmp_lt_f dX7_told_3 ⟨47, by decide⟩ h1 ?_
        refine w_iload_n dX7_told_6 rfl ?_
        refine w_bipush (v := 100) dX7_told_7 (by decide) ?_
        refine w_idiv dX7_told_9 (by decide) ?_
        refine w_iconst (v := 1) dX7_told_10 (by decide) ?_
        refine w_isub dX7_told_11 ?_
        rw [e1]
        refine w_istore_2 dX7_told_12 (Nat.le_of_ble_eq_true rfl) rfl ?_
        refine w_iload_n dX7_told_13 rfl ?_
        refine w_bipush (v := 100) dX7_told_14 (by decide) ?_
        refine w_irem dX7_told_16 (by decide) ?_
        rw [e2]
        refine w_istore_3 dX7_told_17 (Nat.le_of_ble_eq_true rfl) rfl ?_
        refine w_iload_n dX7_told_18 rfl ?_
        refine w_callSr dX7_told_19 k_X7_45 (pm_X7_isSoul) rfl rfl (Nat.le_of_ble_eq_true rfl) (Nat.le_of_ble_eq_true rfl) (Nat.le_of_ble_eq_true rfl) (rc00 (mlen hb) (Nat.le_refl 0)) ?_
        refine w_zif_eq_f dX7_told_22 ⟨44, by decide⟩ (soul_of hj) ?_
        refine w_iload_n dX7_told_25 rfl ?_
        refine w_iconst (v := 3) dX7_told_26 (by decide) ?_
        refine w_icmp_ge_t (tgt := 44) dX7_told_27 (by decide) (nI_le (a := 3) (by omega) (by omega)) ?_
        refine w_bipush (v := (-2)) dX7_told_44 (by decide) ?_
        exact w_iret dX7_told_46 rfl (by rw [e0, cTs, if_pos (soul_of hj), if_neg (ne_nI (r := r) (n := 0) (y := 0) rfl (by omega) (by decide) (by omega)), if_neg (ne_nI (r := r) (n := 1) (y := 1) rfl (by omega) (by decide) (by omega)), if_neg (ne_nI (r := r) (n := 2) (y := 2) rfl (by omega) (by decide) (by omega))]) rfl (mlen hb) (Nat.le_refl 0)
      have q4 : r = 0 ∨ r = 1 ∨ r = 2 := by omega
      rcases q4 with rfl | rfl | rfl
      · skip
        refine w_iload_n dX7_told_0 rfl ?_
        refine w_bipush (v := 100) dX7_told_1 (by decide) ?_
        refine w_icmp_lt_f dX7_told_3 ⟨47, by decide⟩ h1 ?_
        refine w_iload_n dX7_told_6 rfl ?_
        refine w_bipush (v := 100) dX7_told_7 (by decide) ?_
        refine w_idiv dX7_told_9 (by decide) ?_
        refine w_iconst (v := 1) dX7_told_10 (by decide) ?_
        refine w_isub dX7_told_11 ?_
        rw [e1]
        refine w_istore_2 dX7_told_12 (Nat.le_of_ble_eq_true rfl) rfl ?_
        refine w_iload_n dX7_told_13 rfl ?_
        refine w_bipush (v := 100) dX7_told_14 (by decide) ?_
        refine w_irem dX7_told_16 (by decide) ?_
        rw [e2]
        refine w_istore_3 dX7_told_17 (Nat.le_of_ble_eq_true rfl) rfl ?_
        refine w_iload_n dX7_told_18 rfl ?_
        refine w_callSr dX7_told_19 k_X7_45 (pm_X7_isSoul) rfl rfl (Nat.le_of_ble_eq_true rfl) (Nat.le_of_ble_eq_true rfl) (Nat.le_of_ble_eq_true rfl) (rc00 (mlen hb) (Nat.le_refl 0)) ?_
        refine w_zif_eq_f dX7_told_22 ⟨44, by decide⟩ (soul_of hj) ?_
        refine w_iload_n dX7_told_25 rfl ?_
        refine w_iconst (v := 3) dX7_told_26 (by decide) ?_
        refine w_icmp_ge_f dX7_told_27 ⟨44, by decide⟩ (by decide) ?_
        refine w_aload_n dX7_told_30 rfl ?_
        refine w_get dX7_told_31 f_X7_7 (mg0 hb) rfl ?_
        refine w_bipush (v := 8) dX7_told_34 (by decide) ?_
        refine w_iload_n dX7_told_36 rfl ?_
        refine w_imul dX7_told_37 ?_
        refine w_iload_n dX7_told_38 rfl ?_
        refine w_iadd dX7_told_39 ?_
        refine w_ialdN (k := ((8 * 0) + j)) dX7_told_40 (mg_bk hb) (nadd (nmul rfl rfl) rfl) (by omega) (kk := ?_)
        refine w_goto (tgt := 46) dX7_told_41 (by decide) ?_
        exact w_iret dX7_told_46 rfl (by rw [e0, cTs, if_pos (soul_of hj), cl8 (show j < 1000 by omega)]; exact (by rw [show 8 * 0 + j = j by omega]; exact (hR.1 j hj).1)) rfl (mlen hb) (Nat.le_refl 0)
      · skip
        refine w_iload_n dX7_told_0 rfl ?_
        refine w_bipush (v := 100) dX7_told_1 (by decide) ?_
        refine w_icmp_lt_f dX7_told_3 ⟨47, by decide⟩ h1 ?_
        refine w_iload_n dX7_told_6 rfl ?_
        refine w_bipush (v := 100) dX7_told_7 (by decide) ?_
        refine w_idiv dX7_told_9 (by decide) ?_
        refine w_iconst (v := 1) dX7_told_10 (by decide) ?_
        refine w_isub dX7_told_11 ?_
        rw [e1]
        refine w_istore_2 dX7_told_12 (Nat.le_of_ble_eq_true rfl) rfl ?_
        refine w_iload_n dX7_told_13 rfl ?_
        refine w_bipush (v := 100) dX7_told_14 (by decide) ?_
        refine w_irem dX7_told_16 (by decide) ?_
        rw [e2]
        refine w_istore_3 dX7_told_17 (Nat.le_of_ble_eq_true rfl) rfl ?_
        refine w_iload_n dX7_told_18 rfl ?_
        refine w_callSr dX7_told_19 k_X7_45 (pm_X7_isSoul) rfl rfl (Nat.le_of_ble_eq_true rfl) (Nat.le_of_ble_eq_true rfl) (Nat.le_of_ble_eq_true rfl) (rc00 (mlen hb) (Nat.le_refl 0)) ?_
        refine w_zif_eq_f dX7_told_22 ⟨44, by decide⟩ (soul_of hj) ?_
        refine w_iload_n dX7_told_25 rfl ?_
        refine w_iconst (v := 3) dX7_told_26 (by decide) ?_
        refine w_icmp_ge_f dX7_told_27 ⟨44, by decide⟩ (by decide) ?_
        refine w_aload_n dX7_told_30 rfl ?_
        refine w_get dX7_told_31 f_X7_7 (mg0 hb) rfl ?_
        refine w_bipush (v := 8) dX7_told_34 (by decide) ?_
        refine w_iload_n dX7_told_36 rfl ?_
        refine w_imul dX7_told_37 ?_
        refine w_iload_n dX7_told_38 rfl ?_
        refine w_iadd dX7_told_39 ?_
        refine w_ialdN (k := ((8 * 1) + j)) dX7_told_40 (mg_bk hb) (nadd (nmul rfl rfl) rfl) (by omega) (kk := ?_)
        refine w_goto (tgt := 46) dX7_told_41 (by decide) ?_
        exact w_iret dX7_told_46 rfl (by rw [e0, cTs, if_pos (soul_of hj), cl8 (show j < 1000 by omega)]; exact (by rw [show 8 * 1 + j = 8 + j by omega]; exact (hR.1 j hj).2.1)) rfl (mlen hb) (Nat.le_refl 0)
      · skip
        refine w_iload_n dX7_told_0 rfl ?_
        refine w_bipush (v := 100) dX7_told_1 (by decide) ?_
        refine w_icmp_lt_f dX7_told_3 ⟨47, by decide⟩ h1 ?_
        refine w_iload_n dX7_told_6 rfl ?_
        refine w_bipush (v := 100) dX7_told_7 (by decide) ?_
        refine w_idiv dX7_told_9 (by decide) ?_
        refine w_iconst (v := 1) dX7_told_10 (by decide) ?_
        refine w_isub dX7_told_11 ?_
        rw [e1]
        refine w_istore_2 dX7_told_12 (Nat.le_of_ble_eq_true rfl) rfl ?_
        refine w_iload_n dX7_told_13 rfl ?_
        refine w_bipush (v := 100) dX7_told_14 (by decide) ?_
        refine w_irem dX7_told_16 (by decide) ?_
        rw [e2]
        refine w_istore_3 dX7_told_17 (Nat.le_of_ble_eq_true rfl) rfl ?_
        refine w_iload_n dX7_told_18 rfl ?_
        refine w_callSr dX7_told_19 k_X7_45 (pm_X7_isSoul) rfl rfl (Nat.le_of_ble_eq_true rfl) (Nat.le_of_ble_eq_true rfl) (Nat.le_of_ble_eq_true rfl) (rc00 (mlen hb) (Nat.le_refl 0)) ?_
        refine w_zif_eq_f dX7_told_22 ⟨44, by decide⟩ (soul_of hj) ?_
        refine w_iload_n dX7_told_25 rfl ?_
        refine w_iconst (v := 3) dX7_told_26 (by decide) ?_
        refine w_icmp_ge_f dX7_told_27 ⟨44, by decide⟩ (by decide) ?_
        refine w_aload_n dX7_told_30 rfl ?_
        refine w_get dX7_told_31 f_X7_7 (mg0 hb) rfl ?_
        refine w_bipush (v := 8) dX7_told_34 (by decide) ?_
        refine w_iload_n dX7_told_36 rfl ?_
        refine w_imul dX7_told_37 ?_
        refine w_iload_n dX7_told_38 rfl ?_
        refine w_iadd dX7_told_39 ?_
        refine w_ialdN (k := ((8 * 2) + j)) dX7_told_40 (mg_bk hb) (nadd (nmul rfl rfl) rfl) (by omega) (kk := ?_)
        refine w_goto (tgt := 46) dX7_told_41 (by decide) ?_
        exact w_iret dX7_told_46 rfl (by rw [e0, cTs, if_pos (soul_of hj), cl8 (show j < 1000 by omega)]; exact (by rw [show 8 * 2 + j = 16 + j by omega]; exact (hR.1 j hj).2.2)) rfl (mlen hb) (Nat.le_refl 0)

def mSeeM (M : MS) (g : Nat) (q o : Int32) : MS := if sIn q 0 255 then (if g < 8 then tsg (tsi M (upd (upd (msi M) (2 * g) q) (2 * g + 1) (if o = 0 then 0 else 1))) (nI g + 1) else M) else M
def mSeeR (g : Nat) (q : Int32) : Int32 := if sIn q 0 255 then (if g < 8 then nI g + 1 else -4) else -2
set_option maxRecDepth 100000 in
set_option maxHeartbeats 4000000 in
theorem pm_X7_seen {l : Launch} {D : va_G} {h : PH} {M : MS} (hb : 38 < h.length) {g : Nat} (hg : g ≤ 8) (hs : msg M = nI g) {q o : Int32} : PM l D YX7_seen 2 [.ref 28, .int q, .int o] (mput h M) 0 0 (some (.int (mSeeR g q))) (mput h (mSeeM M g q o)) := by
  refine pm_of2 (n0 := h.length) kb_YX7_seen (mlen hb) [some (.ref 28), some (.int q), some (.int o)] (fun _ => rfl) (fun _ => (Nat.le_of_ble_eq_true rfl)) ?_
  by_cases h8 : g < 8
  · have h6 : ¬ nI g = 8 := fun e => by have := (nI_eq (a := g) (b := 8) (by omega) (by decide)).mp e; omega
    refine w_iload_n dX7_seen_0 rfl ?_
    refine w_iconst (v := 0) dX7_seen_1 (by decide) ?_
    refine w_sipush (v := 255) dX7_seen_2 (by decide) ?_
    refine w_callSr dX7_seen_5 k_X7_41 (pm_X7_in) rfl rfl (Nat.le_of_ble_eq_true rfl) (Nat.le_of_ble_eq_true rfl) (Nat.le_of_ble_eq_true rfl) (rc00 (mlen hb) (Nat.le_refl 0)) ?_
    refine w_zif_ne (tgt := 14) dX7_seen_8 (by decide) (fun c_8 => ?_) (fun c_8 => ?_)
    · skip
      refine w_aload_n dX7_seen_14 rfl ?_
      refine w_get dX7_seen_15 f_X7_129 (mg0 hb) rfl ?_
      rw [hs]
      refine w_bipush (v := 8) dX7_seen_18 (by decide) ?_
      refine w_icmp_ne_t (tgt := 26) dX7_seen_20 (by decide) h6 ?_
      refine w_aload_n dX7_seen_26 rfl ?_
      refine w_get dX7_seen_27 f_X7_22 (mg0 hb) rfl ?_
      refine w_iconst (v := 2) dX7_seen_30 (by decide) ?_
      refine w_aload_n dX7_seen_31 rfl ?_
      refine w_get dX7_seen_32 f_X7_129 (mg0 hb) rfl ?_
      rw [hs]
      refine w_imul dX7_seen_35 ?_
      refine w_iload_n dX7_seen_36 rfl ?_
      refine w_aMn_si (k := (2 * g)) dX7_seen_37 hb (nmul rfl rfl) (by omega) ?_
      refine w_aload_n dX7_seen_38 rfl ?_
      refine w_get dX7_seen_39 f_X7_22 (mg0 hb) rfl ?_
      refine w_iconst (v := 2) dX7_seen_42 (by decide) ?_
      refine w_aload_n dX7_seen_43 rfl ?_
      refine w_get dX7_seen_44 f_X7_129 (mg0 hb) rfl ?_
      change Wp _ _ _ _ _ _ _ _ _ (.int (msg M) :: _) _ _
      rw [hs]
      refine w_imul dX7_seen_47 ?_
      refine w_iconst (v := 1) dX7_seen_48 (by decide) ?_
      refine w_iadd dX7_seen_49 ?_
      refine w_iload_n dX7_seen_50 rfl ?_
      refine w_tif_eq (a := ?a51_1) (b := ?b51_1) (pJ := 59) (tgt := 58) dX7_seen_51 (by decide) (fun c_51 k => ?hA51_1) (fun c_51 k => ?hB51_1) ?hk51_1
      case hA51_1 =>
        refine w_iconst (v := 0) dX7_seen_58 (by decide) ?_
        exact k
      case hB51_1 =>
        refine w_iconst (v := 1) dX7_seen_54 (by decide) ?_
        refine w_goto (tgt := 59) dX7_seen_55 (by decide) ?_
        exact k
      refine w_aMn_si (k := ((2 * g) + 1)) dX7_seen_59 hb (nadd (nmul rfl rfl) rfl) (by omega) ?_
      refine w_aload_n dX7_seen_60 rfl ?_
      refine w_dup dX7_seen_61 rfl ?_
      refine w_get dX7_seen_62 f_X7_129 (mg0 hb) rfl ?_
      change Wp _ _ _ _ _ _ _ _ _ (.int (msg M) :: _) _ _
      rw [hs]
      refine w_iconst (v := 1) dX7_seen_65 (by decide) ?_
      refine w_iadd dX7_seen_66 ?_
      refine w_pM4 dX7_seen_67 f_X7_129 hb ?_
      refine w_aload_n dX7_seen_70 rfl ?_
      refine w_get dX7_seen_71 f_X7_129 (mg0 hb) rfl ?_
      exact w_iret dX7_seen_74 rfl (by first | (rw [mSeeR, if_pos c_8, if_pos h8]; try rfl) | (rw [mSeeR, if_neg (by rw [c_8]; decide)])) (by first | (rw [mSeeM, if_pos c_8, if_pos h8]; try rfl) | (rw [mSeeM, if_neg (by rw [c_8]; decide)])) (mlen hb) (Nat.le_refl 0)
    · skip
      refine w_bipush (v := (-2)) dX7_seen_11 (by decide) ?_
      exact w_iret dX7_seen_13 rfl (by first | (rw [mSeeR, if_pos c_8, if_pos h8]; try rfl) | (rw [mSeeR, if_neg (by rw [c_8]; decide)])) (by first | (rw [mSeeM, if_pos c_8, if_pos h8]; try rfl) | (rw [mSeeM, if_neg (by rw [c_8]; decide)])) (mlen hb) (Nat.le_refl 0)
  have h6 : g = 8 := by omega
  subst h6
  refine w_iload_n dX7_seen_0 rfl ?_
  refine w_iconst (v := 0) dX7_seen_1 (by decide) ?_
  refine w_sipush (v := 255) dX7_seen_2 (by decide) ?_
  refine w_callSr dX7_seen_5 k_X7_41 (pm_X7_in) rfl rfl (Nat.le_of_ble_eq_true rfl) (Nat.le_of_ble_eq_true rfl) (Nat.le_of_ble_eq_true rfl) (rc00 (mlen hb) (Nat.le_refl 0)) ?_
  refine w_zif_ne (tgt := 14) dX7_seen_8 (by decide) (fun c_8 => ?_) (fun c_8 => ?_)
  · skip
    refine w_aload_n dX7_seen_14 rfl ?_
    refine w_get dX7_seen_15 f_X7_129 (mg0 hb) rfl ?_
    rw [hs]
    refine w_bipush (v := 8) dX7_seen_18 (by decide) ?_
    refine w_icmp_ne_f dX7_seen_20 ⟨26, by decide⟩ rfl ?_
    refine w_bipush (v := (-4)) dX7_seen_23 (by decide) ?_
    exact w_iret dX7_seen_25 rfl (by first | (rw [mSeeR, if_pos c_8]; try rfl) | (rw [mSeeR, if_neg (by rw [c_8]; decide)])) (by first | (rw [mSeeM, if_pos c_8]; try rfl) | (rw [mSeeM, if_neg (by rw [c_8]; decide)])) (mlen hb) (Nat.le_refl 0)
  · skip
    refine w_bipush (v := (-2)) dX7_seen_11 (by decide) ?_
    exact w_iret dX7_seen_13 rfl (by first | (rw [mSeeR, if_pos c_8]; try rfl) | (rw [mSeeR, if_neg (by rw [c_8]; decide)])) (by first | (rw [mSeeM, if_pos c_8]; try rfl) | (rw [mSeeM, if_neg (by rw [c_8]; decide)])) (mlen hb) (Nat.le_refl 0)

set_option maxRecDepth 100000 in
set_option maxHeartbeats 4000000 in
theorem pm_X7_forget {l : Launch} {D : va_G} {h : PH} {M : MS} (hb : 38 < h.length) : PM l D YX7_forget 1 [.ref 28] (mput h M) 0 0 (some (.int (msg M))) (mput h (tsg M 0)) := by
  refine pm_of2 (n0 := h.length) kb_YX7_forget (mlen hb) [some (.ref 28), none] (fun _ => rfl) (fun _ => (Nat.le_of_ble_eq_true rfl)) ?_
  refine w_aload_n dX7_forget_0 rfl ?_
  refine w_get dX7_forget_1 f_X7_129 (mg0 hb) rfl ?_
  refine w_istore_1 dX7_forget_4 (Nat.le_of_ble_eq_true rfl) rfl ?_
  refine w_aload_n dX7_forget_5 rfl ?_
  refine w_iconst (v := 0) dX7_forget_6 (by decide) ?_
  refine w_pM4 dX7_forget_7 f_X7_129 hb ?_
  refine w_iload_n dX7_forget_10 rfl ?_
  exact w_iret dX7_forget_11 rfl rfl rfl (mlen hb) (Nat.le_refl 0)

def SG (N : WS) (M : MS) (g : Nat) : Prop := ∀ i, i < g → msi M (2 * i) = wsm N i ∧ msi M (2 * i + 1) = b2i (sBit (wop N) (nI i))
def fLw (N : WS) (w t : Nat) (i : Nat) (a : Bool) : Bool := a && (decide (nI t ≤ mb (wsm N i &&& nI w)) == sBit (wop N) (nI i))
def isLw (N : WS) (g w t : Nat) : Bool := iter (fLw N w t) g (sIn (nI t) 1 (mb (nI w)))
theorem fLw_f {N : WS} {w t : Nat} : ∀ k j a, iter (fLw N w t) j a = false → iter (fLw N w t) (j + k) a = false
  | 0, j, a, h => h
  | k + 1, j, a, h => by
    show fLw N w t (j + k) (iter (fLw N w t) (j + k) a) = false
    rw [fLw_f k j a h]; rfl
theorem lw_eq (a b : Bool) : (if b2i a = (if b2i b = 1 then 1 else 0) then (1 : Int32) else 0) = b2i (a == b) := by cases a <;> cases b <;> decide
theorem lt_dec {x y : Int32} : (if x < y then (0 : Int32) else 1) = b2i (decide (y ≤ x)) := by
  by_cases h : x < y
  · rw [if_pos h, decide_eq_false (Int32.not_le.mpr h)]; rfl
  · rw [if_neg h, decide_eq_true (Int32.not_lt.mp h)]; rfl
set_option maxRecDepth 100000 in
set_option maxHeartbeats 4000000 in
theorem pm_X7_isLaw {l : Launch} {D : va_G} {h : PH} {M : MS} (hb : 38 < h.length) {N : WS} {g : Nat} (hg : g ≤ 8) (hs : msg M = nI g) (hG : SG N M g) {w t : Nat} : PM l D YX7_isLaw 2 [.ref 28, .int (nI w), .int (nI t)] (mput h M) 0 0 (some (.int (b2i (isLw N g w t)))) (mput h M) := by
  refine pm_of2 (n0 := h.length) kb_YX7_isLaw (mlen hb) [some (.ref 28), some (.int (nI w)), some (.int (nI t)), none, none] (fun _ => rfl) (fun _ => (Nat.le_of_ble_eq_true rfl)) ?_
  have loop : ∀ (k i : Nat), i + k = g → Wp l D YX7_isLaw (pRm 2 0 0) h.length (fun _ _ _ => True) (mE D h.length 0 0 (some (.int (b2i (isLw N g w t)))) (mput h M)) 13 [some (.ref 28), some (.int (nI w)), some (.int (nI t)), some (.int (b2i (iter (fLw N w t) i (sIn (nI t) 1 (mb (nI w)))))), some (.int (nI i))] [] (mput h M) 0 := by
    intro k
    induction k with
    | zero =>
      intro i hi
      have hi : i = g := by omega
      subst hi
      refine w_iload dX7_isLaw_13 rfl ?_
      refine w_aload_n dX7_isLaw_15 rfl ?_
      refine w_get dX7_isLaw_16 f_X7_129 (mg0 hb) rfl ?_
      refine w_icmp_ge_t (tgt := 84) dX7_isLaw_19 (by decide) (by rw [hs]; exact Int32.le_refl _) ?_
      refine w_iload_n dX7_isLaw_84 rfl ?_
      exact w_zretb dX7_isLaw_85 rfl rfl rfl (mlen hb) (Nat.le_refl 0)
    | succ k ih =>
      intro i hi
      refine w_iload dX7_isLaw_13 rfl ?_
      refine w_aload_n dX7_isLaw_15 rfl ?_
      refine w_get dX7_isLaw_16 f_X7_129 (mg0 hb) rfl ?_
      refine w_icmp_ge_f dX7_isLaw_19 ⟨84, by decide⟩ (by rw [hs]; exact nI_ge (by omega) (by omega)) ?_
      refine w_iload_n dX7_isLaw_22 rfl ?_
      refine w_zif_eq (tgt := 84) dX7_isLaw_23 (by decide) (fun c_23 => ?_) (fun c_23 => ?_)
      · skip
        refine w_iload_n dX7_isLaw_84 rfl ?_
        exact w_zretb dX7_isLaw_85 rfl (by rw [isLw, ← hi, fLw_f (k + 1) i _ c_23, c_23]) rfl (mlen hb) (Nat.le_refl 0)
      · skip
        refine w_aload_n dX7_isLaw_26 rfl ?_
        refine w_get dX7_isLaw_27 f_X7_22 (mg0 hb) rfl ?_
        refine w_iconst (v := 2) dX7_isLaw_30 (by decide) ?_
        refine w_iload dX7_isLaw_31 rfl ?_
        refine w_imul dX7_isLaw_33 ?_
        refine w_ialdN (k := (2 * i)) dX7_isLaw_34 (mg_si hb) (nmul rfl rfl) (by omega) (kk := ?_)
        rw [(hG i (by omega)).1]
        refine w_iload_n dX7_isLaw_35 rfl ?_
        refine w_iand dX7_isLaw_36 ?_
        refine w_callSr dX7_isLaw_37 k_X7_53 (pm_X7_bits) rfl rfl (Nat.le_of_ble_eq_true rfl) (Nat.le_of_ble_eq_true rfl) (Nat.le_of_ble_eq_true rfl) (rc00 (mlen hb) (Nat.le_refl 0)) ?_
        refine w_iload_n dX7_isLaw_40 rfl ?_
        refine w_ticmp_lt (a := ?a41_1) (b := ?b41_1) (pJ := 49) (tgt := 48) dX7_isLaw_41 (by decide) (fun c_41 k => ?hA41_1) (fun c_41 k => ?hB41_1) ?hk41_1
        case hA41_1 =>
          refine w_iconst (v := 0) dX7_isLaw_48 (by decide) ?_
          exact k
        case hB41_1 =>
          refine w_iconst (v := 1) dX7_isLaw_44 (by decide) ?_
          refine w_goto (tgt := 49) dX7_isLaw_45 (by decide) ?_
          exact k
        rw [lt_dec]
        refine w_aload_n dX7_isLaw_49 rfl ?_
        refine w_get dX7_isLaw_50 f_X7_22 (mg0 hb) rfl ?_
        refine w_iconst (v := 2) dX7_isLaw_53 (by decide) ?_
        refine w_iload dX7_isLaw_54 rfl ?_
        refine w_imul dX7_isLaw_56 ?_
        refine w_iconst (v := 1) dX7_isLaw_57 (by decide) ?_
        refine w_iadd dX7_isLaw_58 ?_
        refine w_ialdN (k := ((2 * i) + 1)) dX7_isLaw_59 (mg_si hb) (nadd (nmul rfl rfl) rfl) (by omega) (kk := ?_)
        rw [(hG i (by omega)).2]
        refine w_iconst (v := 1) dX7_isLaw_60 (by decide) ?_
        refine w_ticmp_ne (a := ?a61_2) (b := ?b61_2) (pJ := 69) (tgt := 68) dX7_isLaw_61 (by decide) (fun c_61 k => ?hA61_2) (fun c_61 k => ?hB61_2) ?hk61_2
        case hA61_2 =>
          refine w_iconst (v := 0) dX7_isLaw_68 (by decide) ?_
          exact k
        case hB61_2 =>
          refine w_iconst (v := 1) dX7_isLaw_64 (by decide) ?_
          refine w_goto (tgt := 69) dX7_isLaw_65 (by decide) ?_
          exact k
        refine w_ticmp_ne (a := ?a69_3) (b := ?b69_3) (pJ := 77) (tgt := 76) dX7_isLaw_69 (by decide) (fun c_69 k => ?hA69_3) (fun c_69 k => ?hB69_3) ?hk69_3
        case hA69_3 =>
          refine w_iconst (v := 0) dX7_isLaw_76 (by decide) ?_
          exact k
        case hB69_3 =>
          refine w_iconst (v := 1) dX7_isLaw_72 (by decide) ?_
          refine w_goto (tgt := 77) dX7_isLaw_73 (by decide) ?_
          exact k
        refine w_istore_3 dX7_isLaw_77 (Nat.le_of_ble_eq_true rfl) rfl ?_
        refine w_iinc_4 (v := 1) dX7_isLaw_78 (by decide) (Nat.le_of_ble_eq_true rfl) rfl ?_
        refine w_goto (tgt := 13) dX7_isLaw_81 (by decide) ?_
        refine w_loc_4 (nI_1 i) (w_loc_3 ?_ (ih (i + 1) (by omega)))
        show _ = b2i (fLw N w t i (iter (fLw N w t) i (sIn (nI t) 1 (mb (nI w)))))
        rw [fLw, c_23, Bool.true_and]
        exact lw_eq _ _
  refine w_iload_n dX7_isLaw_0 rfl ?_
  refine w_iconst (v := 1) dX7_isLaw_1 (by decide) ?_
  refine w_iload_n dX7_isLaw_2 rfl ?_
  refine w_callSr dX7_isLaw_3 k_X7_53 (pm_X7_bits) rfl rfl (Nat.le_of_ble_eq_true rfl) (Nat.le_of_ble_eq_true rfl) (Nat.le_of_ble_eq_true rfl) (rc00 (mlen hb) (Nat.le_refl 0)) ?_
  refine w_callSr dX7_isLaw_6 k_X7_41 (pm_X7_in) rfl rfl (Nat.le_of_ble_eq_true rfl) (Nat.le_of_ble_eq_true rfl) (Nat.le_of_ble_eq_true rfl) (rc00 (mlen hb) (Nat.le_refl 0)) ?_
  refine w_istore_3 dX7_isLaw_9 (Nat.le_of_ble_eq_true rfl) rfl ?_
  refine w_iconst (v := 0) dX7_isLaw_10 (by decide) ?_
  refine w_istore_4 dX7_isLaw_11 (Nat.le_of_ble_eq_true rfl) rfl ?_
  exact loop g 0 (by omega)

def lawIn (c : Nat → Bool) (w : Nat) (i : Int32) : Nat → Nat → Int32 → Int32 ⊕ Int32
  | 0, _, n => .inr n
  | k + 1, t, n => if c t then (if n = i then .inl (10 * nI w + nI t) else lawIn c w i k (t + 1) (n + 1)) else lawIn c w i k (t + 1) n
def lawOut (N : WS) (g : Nat) (i : Int32) : Nat → Nat → Int32 → Int32 ⊕ Int32
  | 0, _, n => .inr n
  | k + 1, w, n => match lawIn (isLw N g w) w i 8 1 n with
    | .inl r => .inl r
    | .inr n2 => lawOut N g i k (w + 1) n2
def lawRes (i : Int32) : Int32 ⊕ Int32 → Int32
  | .inl r => r
  | .inr n => if i = -1 then n else -6
def mLaws (N : WS) (g : Nat) (i : Int32) : Int32 := lawRes i (lawOut N g i 255 1 0)
set_option maxRecDepth 100000 in
set_option maxHeartbeats 4000000 in
theorem pm_X7_laws {l : Launch} {D : va_G} {h : PH} {M : MS} (hb : 38 < h.length) {N : WS} {g : Nat} (hg : g ≤ 8) (hs : msg M = nI g) (hG : SG N M g) {i : Int32} : PM l D YX7_laws 3 [.ref 28, .int i] (mput h M) 0 0 (some (.int (mLaws N g i))) (mput h M) := by
  refine pm_of2 (n0 := h.length) kb_YX7_laws (mlen hb) [some (.ref 28), some (.int i), none, none, none] (fun _ => rfl) (fun _ => (Nat.le_of_ble_eq_true rfl)) ?_
  have inner : ∀ (w : Nat) (rest : Nat), (∀ n2 o, lawRes i (lawOut N g i rest (w + 1) n2) = mLaws N g i → Wp l D YX7_laws (pRm 3 0 0) h.length (fun _ _ _ => True) (mE D h.length 0 0 (some (.int (mLaws N g i))) (mput h M)) 53 [some (.ref 28), some (.int i), some (.int n2), some (.int (nI w)), o] [] (mput h M) 0) → ∀ (k t : Nat), t + k = 9 → ∀ n : Int32, lawRes i (match lawIn (isLw N g w) w i k t n with | .inl r => .inl r | .inr n2 => lawOut N g i rest (w + 1) n2) = mLaws N g i → Wp l D YX7_laws (pRm 3 0 0) h.length (fun _ _ _ => True) (mE D h.length 0 0 (some (.int (mLaws N g i))) (mput h M)) 14 [some (.ref 28), some (.int i), some (.int n), some (.int (nI w)), some (.int (nI t))] [] (mput h M) 0 := by
    intro w rest out k
    induction k with
    | zero =>
      intro t ht n hr
      have ht : t = 9 := by omega
      subst ht
      refine w_iload dX7_laws_14 rfl ?_
      refine w_bipush (v := 9) dX7_laws_16 (by decide) ?_
      refine w_icmp_ge_t (tgt := 53) dX7_laws_18 (by decide) (Int32.le_refl _) ?_
      exact out _ _ hr
    | succ k ih =>
      intro t ht n hr
      rw [lawIn] at hr
      refine w_iload dX7_laws_14 rfl ?_
      refine w_bipush (v := 9) dX7_laws_16 (by decide) ?_
      refine w_icmp_ge_f dX7_laws_18 ⟨53, by decide⟩ (lp_g ht (by decide) rfl) ?_
      refine w_aload_n dX7_laws_21 rfl ?_
      refine w_iload_n dX7_laws_22 rfl ?_
      refine w_iload dX7_laws_23 rfl ?_
      refine w_callVr dX7_laws_25 k_X7_132 (pm_X7_isLaw hb hg hs hG) rfl rfl (mg0 hb) rfl (Nat.le_of_ble_eq_true rfl) (Nat.le_of_ble_eq_true rfl) (Nat.le_of_ble_eq_true rfl) (rc00 (mlen hb) (Nat.le_refl 0)) ?_
      refine w_zif_eq (tgt := 47) dX7_laws_28 (by decide) (fun c_28 => ?_) (fun c_28 => ?_)
      · skip
        refine w_iinc_4 (v := 1) dX7_laws_47 (by decide) (Nat.le_of_ble_eq_true rfl) rfl ?_
        refine w_goto (tgt := 14) dX7_laws_50 (by decide) ?_
        first | rw [if_pos c_28, if_neg c_33] at hr | rw [if_neg (by rw [c_28]; decide)] at hr
        exact w_loc_4 (nI_1 t) (ih (t + 1) (by omega) _ hr)
      · skip
        refine w_iload_n dX7_laws_31 rfl ?_
        refine w_iload_n dX7_laws_32 rfl ?_
        refine w_icmp_ne (tgt := 44) dX7_laws_33 (by decide) (fun c_33 => ?_) (fun c_33 => ?_)
        · skip
          refine w_iinc_2 (v := 1) dX7_laws_44 (by decide) (Nat.le_of_ble_eq_true rfl) rfl ?_
          refine w_iinc_4 (v := 1) dX7_laws_47 (by decide) (Nat.le_of_ble_eq_true rfl) rfl ?_
          refine w_goto (tgt := 14) dX7_laws_50 (by decide) ?_
          first | rw [if_pos c_28, if_neg c_33] at hr | rw [if_neg (by rw [c_28]; decide)] at hr
          exact w_loc_4 (nI_1 t) (ih (t + 1) (by omega) _ hr)
        · skip
          refine w_bipush (v := 10) dX7_laws_36 (by decide) ?_
          refine w_iload_n dX7_laws_38 rfl ?_
          refine w_imul dX7_laws_39 ?_
          refine w_iload dX7_laws_40 rfl ?_
          refine w_iadd dX7_laws_42 ?_
          exact w_iret dX7_laws_43 rfl (by rw [if_pos c_28, if_pos c_33] at hr; exact hr) rfl (mlen hb) (Nat.le_refl 0)
  have loop : ∀ (k w : Nat), w + k = 256 → ∀ (n : Int32) (o : Option Value), lawRes i (lawOut N g i k w n) = mLaws N g i → Wp l D YX7_laws (pRm 3 0 0) h.length (fun _ _ _ => True) (mE D h.length 0 0 (some (.int (mLaws N g i))) (mput h M)) 4 [some (.ref 28), some (.int i), some (.int n), some (.int (nI w)), o] [] (mput h M) 0 := by
    intro k
    induction k with
    | zero =>
      intro w hw n o hr
      have hw : w = 256 := by omega
      subst hw
      refine w_iload_n dX7_laws_4 rfl ?_
      refine w_sipush (v := 256) dX7_laws_5 (by decide) ?_
      refine w_icmp_ge_t (tgt := 59) dX7_laws_8 (by decide) (Int32.le_refl _) ?_
      refine w_iload_n dX7_laws_59 rfl ?_
      refine w_iconst (v := (-1)) dX7_laws_60 (by decide) ?_
      refine w_ticmp_ne (a := ?a61_1) (b := ?b61_1) (pJ := 70) (tgt := 68) dX7_laws_61 (by decide) (fun c_61 k => ?hA61_1) (fun c_61 k => ?hB61_1) ?hk61_1
      case hA61_1 =>
        refine w_bipush (v := (-6)) dX7_laws_68 (by decide) ?_
        exact k
      case hB61_1 =>
        refine w_iload_n dX7_laws_64 rfl ?_
        refine w_goto (tgt := 70) dX7_laws_65 (by decide) ?_
        exact k
      exact w_iret dX7_laws_70 rfl (by rw [← hr]; rfl) rfl (mlen hb) (Nat.le_refl 0)
    | succ k ih =>
      intro w hw n o hr
      rw [lawOut] at hr
      refine w_iload_n dX7_laws_4 rfl ?_
      refine w_sipush (v := 256) dX7_laws_5 (by decide) ?_
      refine w_icmp_ge_f dX7_laws_8 ⟨59, by decide⟩ (lp_g hw (by decide) rfl) ?_
      refine w_iconst (v := 1) dX7_laws_11 (by decide) ?_
      refine w_istore_4 dX7_laws_12 (Nat.le_of_ble_eq_true rfl) rfl ?_
      refine inner w k (fun n2 o hr2 => ?_) 8 1 rfl n hr
      refine w_iinc_3 (v := 1) dX7_laws_53 (by decide) (Nat.le_of_ble_eq_true rfl) rfl ?_
      refine w_goto (tgt := 4) dX7_laws_56 (by decide) ?_
      exact w_loc_3 (nI_1 w) (ih (w + 1) (by omega) _ _ hr2)
  refine w_iconst (v := 0) dX7_laws_0 (by decide) ?_
  refine w_istore_2 dX7_laws_1 (Nat.le_of_ble_eq_true rfl) rfl ?_
  refine w_iconst (v := 1) dX7_laws_2 (by decide) ?_
  refine w_istore_3 dX7_laws_3 (Nat.le_of_ble_eq_true rfl) rfl ?_
  exact loop 255 1 rfl _ _ rfl

