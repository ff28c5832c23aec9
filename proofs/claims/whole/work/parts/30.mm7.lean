def lbM (N : WS) (m : Nat → Int32) (i g b : Nat) : Bool := (sLets N (nI b) (nI i) && !g.testBit b) && decide (wco N b + m (64 * i + 64 + (g ||| 2 ^ b)) = m (64 * i + g))
def mmT (N : WS) (m : Nat → Int32) : Nat → Nat
  | 0 => 0
  | i + 1 => if lbGo (lbM N m i (mmT N m i)) 6 0 = -6 then mmT N m i else mmT N m i ||| 2 ^ (lbGo (lbM N m i (mmT N m i)) 6 0).toNatClampNeg
def mmF (N : WS) (m : Nat → Int32) : Nat → Int32
  | 0 => m 0
  | i + 1 => lbGo (lbM N m i (mmT N m i)) 6 0
theorem mmT_lt (N : WS) (m : Nat → Int32) : ∀ i, mmT N m i < 64
  | 0 => by show 0 < 64; decide
  | i + 1 => by
    have ih := mmT_lt N m i
    rw [mmT]
    split
    · exact ih
    · next h =>
      rcases lb_rng (c := lbM N m i (mmT N m i)) 6 0 (by decide) with e | ⟨j, hj, e⟩
      · exact absurd e h
      · rw [e, nI_clamp (by omega)]
        exact or_lt6 _ ih j hj
theorem lb_s (c : Nat → Bool) (k : Nat) (hk : k < 6) : lbGo c (6 - k) k = if c k then nI k else lbGo c (6 - (k + 1)) (k + 1) := by
  rw [show 6 - k = (6 - (k + 1)) + 1 by omega, lbGo]
theorem pick_eq {c z : Bool} {P : Prop} [Decidable P] {a f : Int32} (hc : c = (z && decide P)) : (bif z then (if P then a else f) else f) = if c then a else f := by
  subst hc
  cases z <;> by_cases hP : P <;> simp [hP]
theorem can_eq (a b d : Bool) : (bif a then (bif b then 0 else (bif d then 1 else 0)) else 0) = b2i ((a && d) && !b) := by cases a <;> cases b <;> cases d <;> rfl
set_option maxRecDepth 100000 in
set_option maxHeartbeats 1000000 in
theorem pm_X7_match_a {l : Launch} {D : va_G} {h : PH} {M : MS} (hb : 38 < h.length) {N : WS} (hR : RB N (mbk M)) (hW : RW N M) (hN : NOk N) {w : Nat} (hw : w < 8) (hv : sLiv N (nI w) = true) : PM l D YX7_match 5 [.ref 28, .int (nI w)] (mput h M) 0 0 (some (.int (mmF N (lmD N 8 (mmo M)) (w + 1)))) (mput h (tmo M (lmD N 8 (mmo M)))) := by
  refine pm_of2 (n0 := h.length) kb_YX7_match (mlen hb) [some (.ref 28), some (.int (nI w)), none, none, none, none, none] (fun _ => rfl) (fun _ => (Nat.le_of_ble_eq_true rfl)) ?_
  have hR' : ∀ f, RB N (mbk (tmo M f)) := fun _ => hR
  have hW' : ∀ f, RW N (tmo M f) := fun _ => hW
  have body : ∀ mm : Nat → Int32, mm = (lmD N 8 (mmo M)) → Wp l D YX7_match (pRm 5 0 0) h.length (fun _ _ _ => True) (mE D h.length 0 0 (some (.int (mmF N (lmD N 8 (mmo M)) (w + 1)))) (mput h (tmo M (lmD N 8 (mmo M))))) 19 [some (.ref 28), some (.int (nI w)), none, none, none, none, none] [] (mput h (tmo M mm)) 0 := by
    intro mm hmm
    have inner : ∀ (i g : Nat), i < 8 → g < 64 → (∀ o1 o2, Wp l D YX7_match (pRm 5 0 0) h.length (fun _ _ _ => True) (mE D h.length 0 0 (some (.int (mmF N (lmD N 8 (mmo M)) (w + 1)))) (mput h (tmo M (lmD N 8 (mmo M))))) 153 [some (.ref 28), some (.int (nI w)), some (.int (nI g)), some (.int (lbGo (lbM N mm i g) 6 0)), some (.int (nI i)), o1, o2] [] (mput h (tmo M mm)) 0) → ∀ (v : Nat), v ≤ 6 → ∀ o, Wp l D YX7_match (pRm 5 0 0) h.length (fun _ _ _ => True) (mE D h.length 0 0 (some (.int (mmF N (lmD N 8 (mmo M)) (w + 1)))) (mput h (tmo M (lmD N 8 (mmo M))))) 43 [some (.ref 28), some (.int (nI w)), some (.int (nI g)), some (.int (lbGo (lbM N mm i g) (6 - v) v)), some (.int (nI i)), some (.int (nI v + (-1))), o] [] (mput h (tmo M mm)) 0 := by
      intro i g hi hg out v
      induction v with
      | zero =>
        intro hk o
        refine w_iload dX7_match_43 rfl ?_
        refine w_if_lt_t (tgt := 153) dX7_match_45 (by decide) (by decide) ?_
        exact out _ _
      | succ v ih =>
        intro hk o
        refine w_loc_5 (pk_m1 v) ?_
        have eL := lb_s (lbM N mm i g) v (by omega)
        rw [lbM, lets_nI (show v < 6 by omega)] at eL
        have hgb := or_lt6 g hg v (by omega)
        refine w_iload dX7_match_43 rfl ?_
        refine w_if_lt_f dX7_match_45 ⟨153, by decide⟩ (nI_pos (by omega)) ?_
        refine w_aload_n dX7_match_48 rfl ?_
        refine w_iload dX7_match_49 rfl ?_
        refine w_callVr dX7_match_51 k_X7_117 (pm_X7_lives hb (hR' _)) rfl rfl (mg0 hb) rfl (Nat.le_of_ble_eq_true rfl) (Nat.le_of_ble_eq_true rfl) (Nat.le_of_ble_eq_true rfl) (rc00 (mlen hb) (Nat.le_refl 0)) ?_
        refine w_ztif_eq (a := ?a54_1) (b := ?b54_1) (pJ := 87) (tgt := 86) dX7_match_54 (by decide) (fun c_54 k => ?hA54_1) (fun c_54 k => ?hB54_1) ?hk54_1
        case hA54_1 =>
          refine w_iconst (v := 0) dX7_match_86 (by decide) ?_
          exact k
        case hB54_1 =>
          refine w_iload_n dX7_match_57 rfl ?_
          refine w_iload dX7_match_58 rfl ?_
          refine w_callSr dX7_match_60 k_X7_49 (pm_X7_has) rfl rfl (Nat.le_of_ble_eq_true rfl) (Nat.le_of_ble_eq_true rfl) (Nat.le_of_ble_eq_true rfl) (rc00 (mlen hb) (Nat.le_refl 0)) ?_
          rw [bit_nI g (by omega) v (by omega)]
          refine w_ztif_ne (a := ?a63_2) (b := ?b63_2) (pJ := 87) (tgt := 86) dX7_match_63 (by decide) (fun c_63 k => ?hA63_2) (fun c_63 k => ?hB63_2) ?hk63_2
          case hA63_2 =>
            refine w_iconst (v := 0) dX7_match_86 (by decide) ?_
            exact k
          case hB63_2 =>
            refine w_aload_n dX7_match_66 rfl ?_
            refine w_iload dX7_match_67 rfl ?_
            refine w_aload_n dX7_match_69 rfl ?_
            refine w_get dX7_match_70 f_X7_7 (mg0 hb) rfl ?_
            refine w_iload dX7_match_73 rfl ?_
            refine w_ialdN (k := i) dX7_match_75 (mg_bk hb) rfl (by omega) (kk := ?_)
            change Wp _ _ _ _ _ _ _ _ _ (.int (mbk M i) :: _) _ _
            rw [(hR.1 i hi).1]
            refine w_callVr dX7_match_76 k_X7_77 (pm_X7_doesOpen hb (hW' _) (by omega)) rfl rfl (mg0 hb) rfl (Nat.le_of_ble_eq_true rfl) (Nat.le_of_ble_eq_true rfl) (Nat.le_of_ble_eq_true rfl) (rc00 (mlen hb) (Nat.le_refl 0)) ?_
            rw [felt_mb hN (show v < 6 by omega) hi]
            refine w_ztif_eq (a := ?a79_3) (b := ?b79_3) (pJ := 87) (tgt := 86) dX7_match_79 (by decide) (fun c_79 k => ?hA79_3) (fun c_79 k => ?hB79_3) ?hk79_3
            case hA79_3 =>
              refine w_iconst (v := 0) dX7_match_86 (by decide) ?_
              exact k
            case hB79_3 =>
              refine w_iconst (v := 1) dX7_match_82 (by decide) ?_
              refine w_goto (tgt := 87) dX7_match_83 (by decide) ?_
              exact k
            exact k
          exact k
        refine w_top (can_eq _ _ _) ?_
        refine w_istore_6 dX7_match_87 (Nat.le_of_ble_eq_true rfl) rfl ?_
        refine w_iload dX7_match_89 rfl ?_
        refine w_ztif_eq (a := ?a91_4) (b := ?b91_4) (pJ := 146) (tgt := 145) dX7_match_91 (by decide) (fun c_91 k => ?hA91_4) (fun c_91 k => ?hB91_4) ?hk91_4
        case hA91_4 =>
          refine w_iload_n dX7_match_145 rfl ?_
          exact k
        case hB91_4 =>
          refine w_aload_n dX7_match_94 rfl ?_
          refine w_get dX7_match_95 f_X7_7 (mg0 hb) rfl ?_
          refine w_bipush (v := 88) dX7_match_98 (by decide) ?_
          refine w_iload dX7_match_100 rfl ?_
          refine w_iadd dX7_match_102 ?_
          refine w_ialdN (k := (88 + v)) dX7_match_103 (mg_bk hb) (nadd rfl rfl) (by omega) (kk := ?_)
          change Wp _ _ _ _ _ _ _ _ _ (.int (mbk M (88 + v)) :: _) _ _
          rw [hR.2.2.1 v (by omega)]
          refine w_aload_n dX7_match_104 rfl ?_
          refine w_get dX7_match_105 f_X7_28 (mg0 hb) rfl ?_
          refine w_bipush (v := 64) dX7_match_108 (by decide) ?_
          refine w_iload dX7_match_110 rfl ?_
          refine w_imul dX7_match_112 ?_
          refine w_bipush (v := 64) dX7_match_113 (by decide) ?_
          refine w_iadd dX7_match_115 ?_
          refine w_iload_n dX7_match_116 rfl ?_
          refine w_iconst (v := 1) dX7_match_117 (by decide) ?_
          refine w_iload dX7_match_118 rfl ?_
          refine w_ishl dX7_match_120 ?_
          refine w_ior dX7_match_121 ?_
          rw [shl_nI v (by omega), nI_or]
          refine w_iadd dX7_match_122 ?_
          refine w_ialdN (k := (((64 * i) + 64) + (g ||| 2 ^ v))) dX7_match_123 (mg_mo hb) (nadd (nadd (nmul rfl rfl) rfl) rfl) (by omega) (kk := ?_)
          refine w_iadd dX7_match_124 ?_
          refine w_aload_n dX7_match_125 rfl ?_
          refine w_get dX7_match_126 f_X7_28 (mg0 hb) rfl ?_
          refine w_bipush (v := 64) dX7_match_129 (by decide) ?_
          refine w_iload dX7_match_131 rfl ?_
          refine w_imul dX7_match_133 ?_
          refine w_iload_n dX7_match_134 rfl ?_
          refine w_iadd dX7_match_135 ?_
          refine w_ialdN (k := ((64 * i) + g)) dX7_match_136 (mg_mo hb) (nadd (nmul rfl rfl) rfl) (by omega) (kk := ?_)
          refine w_ticmp_ne (a := ?a137_5) (b := ?b137_5) (pJ := 146) (tgt := 145) dX7_match_137 (by decide) (fun c_137 k => ?hA137_5) (fun c_137 k => ?hB137_5) ?hk137_5
          case hA137_5 =>
            refine w_iload_n dX7_match_145 rfl ?_
            exact k
          case hB137_5 =>
            refine w_iload dX7_match_140 rfl ?_
            refine w_goto (tgt := 146) dX7_match_142 (by decide) ?_
            exact k
          exact k
        refine w_istore_3 dX7_match_146 (Nat.le_of_ble_eq_true rfl) rfl ?_
        refine w_iinc_5 (v := (-1)) dX7_match_147 (by decide) (Nat.le_of_ble_eq_true rfl) rfl ?_
        refine w_goto (tgt := 43) dX7_match_150 (by decide) ?_
        refine w_loc_3 (y := lbGo (lbM N mm i g) (6 - v) v) ?_ (ih (by omega) _)
        rw [eL]
        exact pick_eq rfl
    have loop : ∀ (k i : Nat), i + k = w + 1 → ∀ o1 o2, Wp l D YX7_match (pRm 5 0 0) h.length (fun _ _ _ => True) (mE D h.length 0 0 (some (.int (mmF N (lmD N 8 (mmo M)) (w + 1)))) (mput h (tmo M (lmD N 8 (mmo M))))) 31 [some (.ref 28), some (.int (nI w)), some (.int (nI (mmT N mm i))), some (.int (mmF N mm i)), some (.int (nI i)), o1, o2] [] (mput h (tmo M mm)) 0 := by
      intro k
      induction k with
      | zero =>
        intro i hi o1 o2
        have hi : i = w + 1 := by omega
        subst hi
        refine w_iload dX7_match_31 rfl ?_
        refine w_iload_n dX7_match_33 rfl ?_
        refine w_icmp_gt_t (tgt := 173) dX7_match_34 (by decide) (nI_lt (by omega) (by omega)) ?_
        refine w_iload_n dX7_match_173 rfl ?_
        exact w_iret dX7_match_174 rfl (by rw [hmm]) (by rw [hmm]) (mlen hb) (Nat.le_refl 0)
      | succ k ih =>
        intro i hi o1 o2
        refine w_iload dX7_match_31 rfl ?_
        refine w_iload_n dX7_match_33 rfl ?_
        refine w_icmp_gt_f dX7_match_34 ⟨173, by decide⟩ (nI_nlt (by omega) (by omega)) ?_
        refine w_bipush (v := (-6)) dX7_match_37 (by decide) ?_
        refine w_istore_3 dX7_match_39 (Nat.le_of_ble_eq_true rfl) rfl ?_
        refine w_iconst (v := 5) dX7_match_40 (by decide) ?_
        refine w_istore_5 dX7_match_41 (Nat.le_of_ble_eq_true rfl) rfl ?_
        refine w_loc_5 (show (5 : Int32) = nI 6 + (-1) by decide) (inner i (mmT N mm i) (by omega) (mmT_lt N mm i) (fun o1 o2 => ?_) 6 (by decide) _)
        rcases lb_rng (c := lbM N mm i (mmT N mm i)) 6 0 (by decide) with e | ⟨j, hj, e⟩
        · rw [e]
          have eT : mmT N mm (i + 1) = mmT N mm i := by rw [mmT, if_pos e]
          have eF : mmF N mm (i + 1) = -6 := by rw [mmF, e]
          refine w_iload_n dX7_match_153 rfl ?_
          refine w_iload_n dX7_match_154 rfl ?_
          refine w_if_ge_f dX7_match_155 ⟨162, by decide⟩ (by decide) ?_
          refine w_iconst (v := 0) dX7_match_158 (by decide) ?_
          refine w_goto (tgt := 165) dX7_match_159 (by decide) ?_
          refine w_ior dX7_match_165 ?_
          refine w_istore_2 dX7_match_166 (Nat.le_of_ble_eq_true rfl) rfl ?_
          refine w_iinc_4 (v := 1) dX7_match_167 (by decide) (Nat.le_of_ble_eq_true rfl) rfl ?_
          refine w_goto (tgt := 31) dX7_match_170 (by decide) ?_
          refine w_loc_4 (nI_1 i) ?_
          have q9 := ih (i + 1) (by omega)
          rw [eT, eF] at q9
          exact w_loc_2 (or_0 _) (q9 _ _)
        · rw [e]
          have ne : ¬ lbGo (lbM N mm i (mmT N mm i)) 6 0 = -6 := by rw [e]; exact fun z => absurd (show nI j < 0 by rw [z]; decide) (nI_pos (by omega))
          have eT : mmT N mm (i + 1) = mmT N mm i ||| 2 ^ j := by rw [mmT, if_neg ne, e, nI_clamp (by omega)]
          have eF : mmF N mm (i + 1) = nI j := by rw [mmF, e]
          refine w_iload_n dX7_match_153 rfl ?_
          refine w_iload_n dX7_match_154 rfl ?_
          refine w_if_ge_t (tgt := 162) dX7_match_155 (by decide) (nI_pos' (by omega)) ?_
          refine w_iconst (v := 1) dX7_match_162 (by decide) ?_
          refine w_iload_n dX7_match_163 rfl ?_
          refine w_ishl dX7_match_164 ?_
          refine w_ior dX7_match_165 ?_
          refine w_istore_2 dX7_match_166 (Nat.le_of_ble_eq_true rfl) rfl ?_
          refine w_iinc_4 (v := 1) dX7_match_167 (by decide) (Nat.le_of_ble_eq_true rfl) rfl ?_
          refine w_goto (tgt := 31) dX7_match_170 (by decide) ?_
          refine w_loc_4 (nI_1 i) ?_
          have q9 := ih (i + 1) (by omega)
          rw [eT, eF] at q9
          exact w_loc_2 (by rw [shl_nI j (by omega), nI_or]) (q9 _ _)
    refine w_iconst (v := 0) dX7_match_19 (by decide) ?_
    refine w_istore_2 dX7_match_20 (Nat.le_of_ble_eq_true rfl) rfl ?_
    refine w_aload_n dX7_match_21 rfl ?_
    refine w_get dX7_match_22 f_X7_28 (mg0 hb) rfl ?_
    refine w_iconst (v := 0) dX7_match_25 (by decide) ?_
    refine w_ialdN (k := 0) dX7_match_26 (mg_mo hb) rfl (by omega) (kk := ?_)
    refine w_istore_3 dX7_match_27 (Nat.le_of_ble_eq_true rfl) rfl ?_
    refine w_iconst (v := 0) dX7_match_28 (by decide) ?_
    refine w_istore_4 dX7_match_29 (Nat.le_of_ble_eq_true rfl) rfl ?_
    exact loop (w + 1) 0 (by omega) _ _
  refine w_iload_n dX7_match_0 rfl ?_
  refine w_iconst (v := (-1)) dX7_match_1 (by decide) ?_
  refine w_icmp_eq_f dX7_match_2 ⟨15, by decide⟩ (fun z => absurd (show nI w < 0 by rw [z]; decide) (nI_pos (by omega))) ?_
  refine w_aload_n dX7_match_5 rfl ?_
  refine w_iload_n dX7_match_6 rfl ?_
  refine w_callVr dX7_match_7 k_X7_117 (pm_X7_lives hb hR) rfl rfl (mg0 hb) rfl (Nat.le_of_ble_eq_true rfl) (Nat.le_of_ble_eq_true rfl) (Nat.le_of_ble_eq_true rfl) (rc00 (mlen hb) (Nat.le_refl 0)) ?_
  refine w_zif_ne_t (tgt := 15) dX7_match_10 (by decide) hv ?_
  refine w_aload_n dX7_match_15 rfl ?_
  refine w_callVv dX7_match_16 k_X7_126 (pm_X7_layMatch hb hR hW hN) rfl rfl (mg0 hb) rfl (Nat.le_of_ble_eq_true rfl) (Nat.le_of_ble_eq_true rfl) (Nat.le_of_ble_eq_true rfl) (rc00 (mlen hb) (Nat.le_refl 0)) ?_
  exact body _ rfl

set_option maxRecDepth 100000 in
set_option maxHeartbeats 1000000 in
theorem pm_X7_match_1 {l : Launch} {D : va_G} {h : PH} {M : MS} (hb : 38 < h.length) {N : WS} (hR : RB N (mbk M)) (hW : RW N M) (hN : NOk N) : PM l D YX7_match 5 [.ref 28, .int (-1)] (mput h M) 0 0 (some (.int ((lmD N 8 (mmo M)) 0))) (mput h (tmo M (lmD N 8 (mmo M)))) := by
  refine pm_of2 (n0 := h.length) kb_YX7_match (mlen hb) [some (.ref 28), some (.int (-1)), none, none, none, none, none] (fun _ => rfl) (fun _ => (Nat.le_of_ble_eq_true rfl)) ?_
  have body : ∀ mm : Nat → Int32, mm = (lmD N 8 (mmo M)) → Wp l D YX7_match (pRm 5 0 0) h.length (fun _ _ _ => True) (mE D h.length 0 0 (some (.int ((lmD N 8 (mmo M)) 0))) (mput h (tmo M (lmD N 8 (mmo M))))) 19 [some (.ref 28), some (.int (-1)), none, none, none, none, none] [] (mput h (tmo M mm)) 0 := by
    intro mm hmm
    refine w_iconst (v := 0) dX7_match_19 (by decide) ?_
    refine w_istore_2 dX7_match_20 (Nat.le_of_ble_eq_true rfl) rfl ?_
    refine w_aload_n dX7_match_21 rfl ?_
    refine w_get dX7_match_22 f_X7_28 (mg0 hb) rfl ?_
    refine w_iconst (v := 0) dX7_match_25 (by decide) ?_
    refine w_ialdN (k := 0) dX7_match_26 (mg_mo hb) rfl (by omega) (kk := ?_)
    change Wp _ _ _ _ _ _ _ _ _ [.int (mm 0)] _ _
    refine w_istore_3 dX7_match_27 (Nat.le_of_ble_eq_true rfl) rfl ?_
    refine w_iconst (v := 0) dX7_match_28 (by decide) ?_
    refine w_istore_4 dX7_match_29 (Nat.le_of_ble_eq_true rfl) rfl ?_
    refine w_iload dX7_match_31 rfl ?_
    refine w_iload_n dX7_match_33 rfl ?_
    refine w_icmp_gt_t (tgt := 173) dX7_match_34 (by decide) (by decide) ?_
    refine w_iload_n dX7_match_173 rfl ?_
    exact w_iret dX7_match_174 rfl (by rw [hmm]) (by rw [hmm]) (mlen hb) (Nat.le_refl 0)
  refine w_iload_n dX7_match_0 rfl ?_
  refine w_iconst (v := (-1)) dX7_match_1 (by decide) ?_
  refine w_icmp_eq_t (tgt := 15) dX7_match_2 (by decide) rfl ?_
  refine w_aload_n dX7_match_15 rfl ?_
  refine w_callVv dX7_match_16 k_X7_126 (pm_X7_layMatch hb hR hW hN) rfl rfl (mg0 hb) rfl (Nat.le_of_ble_eq_true rfl) (Nat.le_of_ble_eq_true rfl) (Nat.le_of_ble_eq_true rfl) (rc00 (mlen hb) (Nat.le_refl 0)) ?_
  exact body _ rfl

set_option maxRecDepth 100000 in
set_option maxHeartbeats 1000000 in
theorem pm_X7_match_r {l : Launch} {D : va_G} {h : PH} {M : MS} (hb : 38 < h.length) {N : WS} (hR : RB N (mbk M)) {s : Int32} (h1 : ¬ s = -1) (hv : sLiv N s = false) : PM l D YX7_match 5 [.ref 28, .int s] (mput h M) 0 0 (some (.int (-1))) (mput h M) := by
  refine pm_of2 (n0 := h.length) kb_YX7_match (mlen hb) [some (.ref 28), some (.int s), none, none, none, none, none] (fun _ => rfl) (fun _ => (Nat.le_of_ble_eq_true rfl)) ?_
  refine w_iload_n dX7_match_0 rfl ?_
  refine w_iconst (v := (-1)) dX7_match_1 (by decide) ?_
  refine w_icmp_eq_f dX7_match_2 ⟨15, by decide⟩ h1 ?_
  refine w_aload_n dX7_match_5 rfl ?_
  refine w_iload_n dX7_match_6 rfl ?_
  refine w_callVr dX7_match_7 k_X7_117 (pm_X7_lives hb hR) rfl rfl (mg0 hb) rfl (Nat.le_of_ble_eq_true rfl) (Nat.le_of_ble_eq_true rfl) (Nat.le_of_ble_eq_true rfl) (rc00 (mlen hb) (Nat.le_refl 0)) ?_
  refine w_zif_ne_f dX7_match_10 ⟨15, by decide⟩ hv ?_
  refine w_iconst (v := (-1)) dX7_match_13 (by decide) ?_
  exact w_iret dX7_match_14 rfl rfl rfl (mlen hb) (Nat.le_refl 0)

theorem w_istore_15 {l : Launch} {D : va_G} {Y : PMth} {R : Room} {n0 : Nat} {X : State → Array Value → Nat → Prop} {E : List Frame → Array Value → State → Nat → State → Prop} {pc nx : Nat} {L : List (Option Value)} {st : List Value} {h : PH} {n : Nat} {a0 a1 a2 a3 a4 a5 a6 a7 a8 a9 a10 a11 a12 a13 a14 a15 : Option Value} {x : Int32} (hd : dc Y.2.1 pc (.istore 15) 2 nx) (hn : 15 < Y.2.2.1) (hc : c1 a14 = true) (kk : Wp l D Y R n0 X E nx (a0 :: a1 :: a2 :: a3 :: a4 :: a5 :: a6 :: a7 :: a8 :: a9 :: a10 :: a11 :: a12 :: a13 :: a14 :: some (.int x) :: L) st h n) : Wp l D Y R n0 X E pc (a0 :: a1 :: a2 :: a3 :: a4 :: a5 :: a6 :: a7 :: a8 :: a9 :: a10 :: a11 :: a12 :: a13 :: a14 :: a15 :: L) (.int x :: st) h n := w_istore (i := 15) hd hn (by simp) hc kk
theorem w_iinc_15 {l : Launch} {D : va_G} {Y : PMth} {R : Room} {n0 : Nat} {X : State → Array Value → Nat → Prop} {E : List Frame → Array Value → State → Nat → State → Prop} {pc nx : Nat} {L : List (Option Value)} {st : List Value} {h : PH} {n : Nat} {a0 a1 a2 a3 a4 a5 a6 a7 a8 a9 a10 a11 a12 a13 a14 : Option Value} {z : Int} {x v : Int32} (hd : dc Y.2.1 pc (.iinc 15 z) 3 nx) (hv : Int32.ofInt z = v) (hn : 15 < Y.2.2.1) (hc : c1 a14 = true) (kk : Wp l D Y R n0 X E nx (a0 :: a1 :: a2 :: a3 :: a4 :: a5 :: a6 :: a7 :: a8 :: a9 :: a10 :: a11 :: a12 :: a13 :: a14 :: some (.int (x + v)) :: L) st h n) : Wp l D Y R n0 X E pc (a0 :: a1 :: a2 :: a3 :: a4 :: a5 :: a6 :: a7 :: a8 :: a9 :: a10 :: a11 :: a12 :: a13 :: a14 :: some (.int x) :: L) st h n := w_iinc (i := 15) hd rfl hv hn hc kk
theorem w_loc_15 {l : Launch} {D : va_G} {Y : PMth} {R : Room} {n0 : Nat} {X : State → Array Value → Nat → Prop} {E : List Frame → Array Value → State → Nat → State → Prop} {pc : Nat} {L : List (Option Value)} {st : List Value} {h : PH} {n : Nat} {a0 a1 a2 a3 a4 a5 a6 a7 a8 a9 a10 a11 a12 a13 a14 : Option Value} {x y : Int32} (hh : x = y) (k : Wp l D Y R n0 X E pc (a0 :: a1 :: a2 :: a3 :: a4 :: a5 :: a6 :: a7 :: a8 :: a9 :: a10 :: a11 :: a12 :: a13 :: a14 :: some (.int y) :: L) st h n) : Wp l D Y R n0 X E pc (a0 :: a1 :: a2 :: a3 :: a4 :: a5 :: a6 :: a7 :: a8 :: a9 :: a10 :: a11 :: a12 :: a13 :: a14 :: some (.int x) :: L) st h n := hh ▸ k
theorem w_lstore_17 {l : Launch} {D : va_G} {Y : PMth} {R : Room} {n0 : Nat} {X : State → Array Value → Nat → Prop} {E : List Frame → Array Value → State → Nat → State → Prop} {pc nx : Nat} {L : List (Option Value)} {st : List Value} {h : PH} {n : Nat} {a0 a1 a2 a3 a4 a5 a6 a7 a8 a9 a10 a11 a12 a13 a14 a15 a16 a17 a18 : Option Value} {x : Int64} (hd : dc Y.2.1 pc (.lstore 17) 2 nx) (hn : 17 + 1 < Y.2.2.1) (hc : c1 a16 = true) (kk : Wp l D Y R n0 X E nx (a0 :: a1 :: a2 :: a3 :: a4 :: a5 :: a6 :: a7 :: a8 :: a9 :: a10 :: a11 :: a12 :: a13 :: a14 :: a15 :: a16 :: some (.long x) :: none :: L) st h n) : Wp l D Y R n0 X E pc (a0 :: a1 :: a2 :: a3 :: a4 :: a5 :: a6 :: a7 :: a8 :: a9 :: a10 :: a11 :: a12 :: a13 :: a14 :: a15 :: a16 :: a17 :: a18 :: L) (.long x :: st) h n := w_lstore (i := 17) hd hn (by simp) hc kk
theorem w_lstore_19 {l : Launch} {D : va_G} {Y : PMth} {R : Room} {n0 : Nat} {X : State → Array Value → Nat → Prop} {E : List Frame → Array Value → State → Nat → State → Prop} {pc nx : Nat} {L : List (Option Value)} {st : List Value} {h : PH} {n : Nat} {a0 a1 a2 a3 a4 a5 a6 a7 a8 a9 a10 a11 a12 a13 a14 a15 a16 a17 a18 a19 a20 : Option Value} {x : Int64} (hd : dc Y.2.1 pc (.lstore 19) 2 nx) (hn : 19 + 1 < Y.2.2.1) (hc : c1 a18 = true) (kk : Wp l D Y R n0 X E nx (a0 :: a1 :: a2 :: a3 :: a4 :: a5 :: a6 :: a7 :: a8 :: a9 :: a10 :: a11 :: a12 :: a13 :: a14 :: a15 :: a16 :: a17 :: a18 :: some (.long x) :: none :: L) st h n) : Wp l D Y R n0 X E pc (a0 :: a1 :: a2 :: a3 :: a4 :: a5 :: a6 :: a7 :: a8 :: a9 :: a10 :: a11 :: a12 :: a13 :: a14 :: a15 :: a16 :: a17 :: a18 :: a19 :: a20 :: L) (.long x :: st) h n := w_lstore (i := 19) hd hn (by simp) hc kk
theorem w_lstore_21 {l : Launch} {D : va_G} {Y : PMth} {R : Room} {n0 : Nat} {X : State → Array Value → Nat → Prop} {E : List Frame → Array Value → State → Nat → State → Prop} {pc nx : Nat} {L : List (Option Value)} {st : List Value} {h : PH} {n : Nat} {a0 a1 a2 a3 a4 a5 a6 a7 a8 a9 a10 a11 a12 a13 a14 a15 a16 a17 a18 a19 a20 a21 a22 : Option Value} {x : Int64} (hd : dc Y.2.1 pc (.lstore 21) 2 nx) (hn : 21 + 1 < Y.2.2.1) (hc : c1 a20 = true) (kk : Wp l D Y R n0 X E nx (a0 :: a1 :: a2 :: a3 :: a4 :: a5 :: a6 :: a7 :: a8 :: a9 :: a10 :: a11 :: a12 :: a13 :: a14 :: a15 :: a16 :: a17 :: a18 :: a19 :: a20 :: some (.long x) :: none :: L) st h n) : Wp l D Y R n0 X E pc (a0 :: a1 :: a2 :: a3 :: a4 :: a5 :: a6 :: a7 :: a8 :: a9 :: a10 :: a11 :: a12 :: a13 :: a14 :: a15 :: a16 :: a17 :: a18 :: a19 :: a20 :: a21 :: a22 :: L) (.long x :: st) h n := w_lstore (i := 21) hd hn (by simp) hc kk
set_option maxRecDepth 100000 in
set_option maxHeartbeats 1000000 in
theorem pm_X7_chance_r {l : Launch} {D : va_G} {h : PH} {M : MS} (hb : 38 < h.length) {N : WS} (hR : RB N (mbk M)) {s x n u p : Int32} (hn : (sLiv N s && sBox x && (sIn n 0 2 && (sIn u 0 10 && sIn p 0 1))) = false) : PM l D YX7_chance 4 [.ref 28, .int s, .int x, .int n, .int u, .int p] (mput h M) 0 0 (some (.long (if sLiv N s && sBox x then -1000000000000000002 else -1000000000000000001))) (mput h M) := by
  refine pm_of2 (n0 := h.length) kb_YX7_chance (mlen hb) [some (.ref 28), some (.int s), some (.int x), some (.int n), some (.int u), some (.int p), none, none, none, none, none, none, none, none, none, none, none, none, none, none, none, none, none] (fun _ => rfl) (fun _ => (Nat.le_of_ble_eq_true rfl)) ?_
  refine w_aload_n dX7_chance_0 rfl ?_
  refine w_iload_n dX7_chance_1 rfl ?_
  refine w_callVr dX7_chance_2 k_X7_117 (pm_X7_lives hb hR) rfl rfl (mg0 hb) rfl (Nat.le_of_ble_eq_true rfl) (Nat.le_of_ble_eq_true rfl) (Nat.le_of_ble_eq_true rfl) (rc00 (mlen hb) (Nat.le_refl 0)) ?_
  refine w_zif_eq (tgt := 15) dX7_chance_5 (by decide) (fun c_5 => ?_) (fun c_5 => ?_)
  · skip
    refine w_ldc2 dX7_chance_15 q_X7_136 ?_
    exact w_lret dX7_chance_18 rfl (by simp only [Bool.and_self, Bool.true_and, Bool.and_true, Bool.false_and, Bool.and_false, if_pos, if_neg, not_false_eq_true, if_true, if_false, Bool.false_eq_true, c_5]) rfl (mlen hb) (Nat.le_refl 0)
  · skip
    refine w_iload_n dX7_chance_8 rfl ?_
    refine w_callSr dX7_chance_9 k_X7_57 (pm_X7_isBox) rfl rfl (Nat.le_of_ble_eq_true rfl) (Nat.le_of_ble_eq_true rfl) (Nat.le_of_ble_eq_true rfl) (rc00 (mlen hb) (Nat.le_refl 0)) ?_
    refine w_zif_ne (tgt := 19) dX7_chance_12 (by decide) (fun c_12 => ?_) (fun c_12 => ?_)
    · skip
      refine w_iload_n dX7_chance_19 rfl ?_
      refine w_iconst (v := 0) dX7_chance_20 (by decide) ?_
      refine w_iconst (v := 2) dX7_chance_21 (by decide) ?_
      refine w_callSr dX7_chance_22 k_X7_41 (pm_X7_in) rfl rfl (Nat.le_of_ble_eq_true rfl) (Nat.le_of_ble_eq_true rfl) (Nat.le_of_ble_eq_true rfl) (rc00 (mlen hb) (Nat.le_refl 0)) ?_
      refine w_zif_eq (tgt := 49) dX7_chance_25 (by decide) (fun c_25 => ?_) (fun c_25 => ?_)
      · skip
        refine w_ldc2 dX7_chance_49 q_X7_138 ?_
        exact w_lret dX7_chance_52 rfl (by simp only [Bool.and_self, Bool.true_and, Bool.and_true, Bool.false_and, Bool.and_false, if_pos, if_neg, not_false_eq_true, if_true, if_false, Bool.false_eq_true, c_5, c_12, c_25]) rfl (mlen hb) (Nat.le_refl 0)
      · skip
        refine w_iload dX7_chance_28 rfl ?_
        refine w_iconst (v := 0) dX7_chance_30 (by decide) ?_
        refine w_bipush (v := 10) dX7_chance_31 (by decide) ?_
        refine w_callSr dX7_chance_33 k_X7_41 (pm_X7_in) rfl rfl (Nat.le_of_ble_eq_true rfl) (Nat.le_of_ble_eq_true rfl) (Nat.le_of_ble_eq_true rfl) (rc00 (mlen hb) (Nat.le_refl 0)) ?_
        refine w_zif_eq (tgt := 49) dX7_chance_36 (by decide) (fun c_36 => ?_) (fun c_36 => ?_)
        · skip
          refine w_ldc2 dX7_chance_49 q_X7_138 ?_
          exact w_lret dX7_chance_52 rfl (by simp only [Bool.and_self, Bool.true_and, Bool.and_true, Bool.false_and, Bool.and_false, if_pos, if_neg, not_false_eq_true, if_true, if_false, Bool.false_eq_true, c_5, c_12, c_25, c_36]) rfl (mlen hb) (Nat.le_refl 0)
        · skip
          refine w_iload dX7_chance_39 rfl ?_
          refine w_iconst (v := 0) dX7_chance_41 (by decide) ?_
          refine w_iconst (v := 1) dX7_chance_42 (by decide) ?_
          refine w_callSr dX7_chance_43 k_X7_41 (pm_X7_in) rfl rfl (Nat.le_of_ble_eq_true rfl) (Nat.le_of_ble_eq_true rfl) (Nat.le_of_ble_eq_true rfl) (rc00 (mlen hb) (Nat.le_refl 0)) ?_
          refine w_zif_ne (tgt := 53) dX7_chance_46 (by decide) (fun c_46 => ?_) (fun c_46 => ?_)
          · skip
            simp only [*, Bool.and_self] at hn
            cases hn
          · skip
            refine w_ldc2 dX7_chance_49 q_X7_138 ?_
            exact w_lret dX7_chance_52 rfl (by simp only [Bool.and_self, Bool.true_and, Bool.and_true, Bool.false_and, Bool.and_false, if_pos, if_neg, not_false_eq_true, if_true, if_false, Bool.false_eq_true, c_5, c_12, c_25, c_36, c_46]) rfl (mlen hb) (Nat.le_refl 0)
    · skip
      refine w_ldc2 dX7_chance_15 q_X7_136 ?_
      exact w_lret dX7_chance_18 rfl (by simp only [Bool.and_self, Bool.true_and, Bool.and_true, Bool.false_and, Bool.and_false, if_pos, if_neg, not_false_eq_true, if_true, if_false, Bool.false_eq_true, c_5, c_12]) rfl (mlen hb) (Nat.le_refl 0)

def chS (N : WS) (s x n u : Nat) : Int64 := wkW (sFelt N (nI x) (nI s)).toNatClampNeg (whi N x) (lpow (nI u).toInt64 n) (lpow 10 n - lpow (nI u).toInt64 n) ((sFelt N (nI x) (nI s)).toNatClampNeg + 1)
def chL (N : WS) (s x n : Nat) : Int64 := lpow (lpow 10 n) (sFelt N (nI x) (nI s)).toNatClampNeg
theorem in_k {k : Nat} (n : Nat) {y : Int32} (hy : y = nI n) (hk : k ≤ n) (hn : n < 2 ^ 31) : sIn (nI k) 0 y = true := by
  simp only [sIn, Bool.and_eq_true, decide_eq_true_eq]
  exact ⟨nI_pos' (by omega), by rw [hy]; exact nI_le hk hn⟩
set_option maxRecDepth 100000 in
set_option maxHeartbeats 1000000 in
theorem pm_X7_chance_a {l : Launch} {D : va_G} {h : PH} {M : MS} (hb : 38 < h.length) {N : WS} (hR : RB N (mbk M)) (hW : RW N M) (hN : NOk N) {s x n u : Nat} {p : Int32} (hs : s < 8) (hx : x < 6) (hv : sLiv N (nI s) = true) (hn : n ≤ 2) (hu : u ≤ 10) (hp : sIn p 0 1 = true) {a b : Nat} (ha : a < 2 ^ 63) (hb0 : 0 < b) (hb1 : b < 2 ^ 63) (eS : chS N s x n u = lN a) (eL : chL N s x n = lN b) : PM l D YX7_chance 4 [.ref 28, .int (nI s), .int (nI x), .int (nI n), .int (nI u), .int p] (mput h M) 0 0 (some (.long (if p = 0 then lN a / lN (Nat.gcd a b) else lN b / lN (Nat.gcd a b)))) (mput h M) := by
  refine pm_of2 (n0 := h.length) kb_YX7_chance (mlen hb) [some (.ref 28), some (.int (nI s)), some (.int (nI x)), some (.int (nI n)), some (.int (nI u)), some (.int p), none, none, none, none, none, none, none, none, none, none, none, none, none, none, none, none, none] (fun _ => rfl) (fun _ => (Nat.le_of_ble_eq_true rfl)) ?_
  have gpos : 0 < Nat.gcd a b := Nat.gcd_pos_of_pos_right _ hb0
  have glt : Nat.gcd a b < 2 ^ 63 := Nat.lt_of_le_of_lt (Nat.gcd_le_right _ hb0) hb1
  have gne : ¬ lN (Nat.gcd a b) = 0 := fun z => by have := (pk_lEQ glt (b := 0) (by decide)).mp z; omega
  have euc : ∀ (f : Nat) (A B W : Int64), ∀ (y : Nat), ∀ (z : Nat) (o : Option Value), z < 2 ^ 63 → y < 2 ^ 63 → Nat.gcd z y = (Nat.gcd a b) → Wp l D YX7_chance (pRm 4 0 0) h.length (fun _ _ _ => True) (mE D h.length 0 0 (some (.long (if p = 0 then lN a / lN (Nat.gcd a b) else lN b / lN (Nat.gcd a b)))) (mput h M)) 194 [some (.ref 28), some (.int (nI s)), some (.int (nI x)), some (.int (nI n)), some (.int (nI u)), some (.int p), some (.int (nI f)), some (.long A), none, some (.long B), none, some (.long (lN a)), none, some (.long W), none, some (.long (lN b)), none, some (.long (lN z)), none, some (.long (lN y)), none, o, none] [] (mput h M) 0 := by
    intro f A B W y
    induction y using Nat.strongRecOn with
    | _ y ih =>
      intro z o hz hy hg
      by_cases y0 : y = 0
      · subst y0
        rw [Nat.gcd_zero_right] at hg
        subst hg
        refine w_lload dX7_chance_194 rfl ?_
        refine w_lconst (v := 0) dX7_chance_196 (by decide) ?_
        refine w_lcmp dX7_chance_197 ?_
        refine w_if_eq_t (tgt := 219) dX7_chance_198 (by decide) (lg_0.mpr rfl) ?_
        refine w_iload dX7_chance_219 rfl ?_
        refine w_if_ne (tgt := 232) dX7_chance_221 (by decide) (fun c_221 => ?_) (fun c_221 => ?_)
        · skip
          refine w_lload dX7_chance_232 rfl ?_
          refine w_lload dX7_chance_234 rfl ?_
          refine w_ldiv dX7_chance_236 gne ?_
          exact w_lret dX7_chance_237 rfl (by simp only [if_pos, if_neg, not_false_eq_true, c_221]) rfl (mlen hb) (Nat.le_refl 0)
        · skip
          refine w_lload dX7_chance_224 rfl ?_
          refine w_lload dX7_chance_226 rfl ?_
          refine w_ldiv dX7_chance_228 gne ?_
          refine w_goto (tgt := 237) dX7_chance_229 (by decide) ?_
          exact w_lret dX7_chance_237 rfl (by simp only [if_pos, if_neg, not_false_eq_true, c_221]) rfl (mlen hb) (Nat.le_refl 0)
      · have yne : ¬ lN y = 0 := fun q => y0 ((pk_lEQ hy (b := 0) (by decide)).mp q)
        refine w_lload dX7_chance_194 rfl ?_
        refine w_lconst (v := 0) dX7_chance_196 (by decide) ?_
        refine w_lcmp dX7_chance_197 ?_
        refine w_if_eq_f dX7_chance_198 ⟨219, by decide⟩ (fun q => yne (lg_0.mp q)) ?_
        refine w_lload dX7_chance_201 rfl ?_
        refine w_lload dX7_chance_203 rfl ?_
        refine w_lrem dX7_chance_205 yne ?_
        rw [pk_lRem hz (by omega) hy]
        refine w_lstore_21 dX7_chance_206 (Nat.le_of_ble_eq_true rfl) rfl ?_
        refine w_lload dX7_chance_208 rfl ?_
        refine w_lstore_17 dX7_chance_210 (Nat.le_of_ble_eq_true rfl) rfl ?_
        refine w_lload dX7_chance_212 rfl ?_
        refine w_lstore_19 dX7_chance_214 (Nat.le_of_ble_eq_true rfl) rfl ?_
        refine w_goto (tgt := 194) dX7_chance_216 (by decide) ?_
        exact ih (z % y) (Nat.mod_lt _ (by omega)) y _ hy (Nat.lt_of_lt_of_le (Nat.mod_lt _ (by omega)) (Nat.le_of_lt hy)) (by rw [← hg, Nat.gcd_comm z y, Nat.gcd_rec y z, Nat.gcd_comm])
  have loop : ∀ (f : Nat), f = (sFelt N (nI x) (nI s)).toNatClampNeg → f < 64 → ∀ (i k : Nat), k + i = f + 1 → Wp l D YX7_chance (pRm 4 0 0) h.length (fun _ _ _ => True) (mE D h.length 0 0 (some (.long (if p = 0 then lN a / lN (Nat.gcd a b) else lN b / lN (Nat.gcd a b)))) (mput h M)) 101 [some (.ref 28), some (.int (nI s)), some (.int (nI x)), some (.int (nI n)), some (.int (nI u)), some (.int p), some (.int (nI f)), some (.long (lpow (nI u).toInt64 n)), none, some (.long (lpow 10 n - lpow (nI u).toInt64 n)), none, some (.long (wkW f (whi N x) (lpow (nI u).toInt64 n) (lpow 10 n - lpow (nI u).toInt64 n) k)), none, some (.long (wkC f k)), none, some (.int (nI k)), none, none, none, none, none, none, none] [] (mput h M) 0 := by
    intro f hf hf6 i
    induction i with
    | zero =>
      intro k hk
      have hk : k = f + 1 := by omega
      subst hk
      have eS2 : wkW f (whi N x) (lpow (nI u).toInt64 n) (lpow 10 n - lpow (nI u).toInt64 n) (f + 1) = lN a := by rw [← eS, chS, hf]
      have eL2 : lpow (lpow 10 n) f = lN b := by rw [← eL, chL, hf]
      rw [eS2]
      refine w_iload dX7_chance_101 rfl ?_
      refine w_iload dX7_chance_103 rfl ?_
      refine w_icmp_gt_t (tgt := 172) dX7_chance_105 (by decide) (nI_lt (by omega) (by omega)) ?_
      refine w_ldc2 dX7_chance_172 q_X7_144 ?_
      refine w_iload_n dX7_chance_175 rfl ?_
      refine w_callSr dX7_chance_176 k_X7_140 (pm_X7_power (by omega)) rfl rfl (Nat.le_of_ble_eq_true rfl) (Nat.le_of_ble_eq_true rfl) (Nat.le_of_ble_eq_true rfl) (rc00 (mlen hb) (Nat.le_refl 0)) ?_
      refine w_iload dX7_chance_179 rfl ?_
      refine w_callSr dX7_chance_181 k_X7_140 (pm_X7_power (by omega)) rfl rfl (Nat.le_of_ble_eq_true rfl) (Nat.le_of_ble_eq_true rfl) (Nat.le_of_ble_eq_true rfl) (rc00 (mlen hb) (Nat.le_refl 0)) ?_
      rw [eL2]
      refine w_lstore_15 dX7_chance_184 (Nat.le_of_ble_eq_true rfl) rfl ?_
      refine w_lload dX7_chance_186 rfl ?_
      refine w_lstore_17 dX7_chance_188 (Nat.le_of_ble_eq_true rfl) rfl ?_
      refine w_lload dX7_chance_190 rfl ?_
      refine w_lstore_19 dX7_chance_192 (Nat.le_of_ble_eq_true rfl) rfl ?_
      exact euc f _ _ _ b a _ ha hb1 rfl
    | succ i ih =>
      intro k hk
      have e1 : wkW f (whi N x) (lpow (nI u).toInt64 n) (lpow 10 n - lpow (nI u).toInt64 n) (k + 1) = if whi N x ≤ nI k then wkW f (whi N x) (lpow (nI u).toInt64 n) (lpow 10 n - lpow (nI u).toInt64 n) k + wkC f k * lpow (lpow (nI u).toInt64 n) k * lpow (lpow 10 n - lpow (nI u).toInt64 n) (f - k) else wkW f (whi N x) (lpow (nI u).toInt64 n) (lpow 10 n - lpow (nI u).toInt64 n) k := iter_s _ _ _
      have e2 : wkC f (k + 1) = wkC f k * (nI f - nI k).toInt64 / (nI k + 1).toInt64 := iter_s _ _ _
      refine w_iload dX7_chance_101 rfl ?_
      refine w_iload dX7_chance_103 rfl ?_
      refine w_icmp_gt_f dX7_chance_105 ⟨172, by decide⟩ (nI_nlt (by omega) (by omega)) ?_
      refine w_lload dX7_chance_108 rfl ?_
      refine w_iload dX7_chance_110 rfl ?_
      refine w_aload_n dX7_chance_112 rfl ?_
      refine w_get dX7_chance_113 f_X7_19 (mg0 hb) rfl ?_
      refine w_iload_n dX7_chance_116 rfl ?_
      refine w_ialdN (k := x) dX7_chance_117 (mg_hi hb) rfl (by omega) (kk := ?_)
      rw [(hW x hx).2]
      refine w_icmp_lt (tgt := 145) dX7_chance_118 (by decide) (fun c_118 => ?_) (fun c_118 => ?_)
      · skip
        refine w_lconst (v := 0) dX7_chance_145 (by decide) ?_
        refine w_ladd dX7_chance_146 ?_
        refine w_lstore_11 dX7_chance_147 (Nat.le_of_ble_eq_true rfl) rfl ?_
        refine w_lload dX7_chance_149 rfl ?_
        refine w_iload dX7_chance_151 rfl ?_
        refine w_iload dX7_chance_153 rfl ?_
        refine w_isub dX7_chance_155 ?_
        refine w_i2l dX7_chance_156 ?_
        refine w_lmul dX7_chance_157 ?_
        refine w_iload dX7_chance_158 rfl ?_
        refine w_iconst (v := 1) dX7_chance_160 (by decide) ?_
        refine w_iadd dX7_chance_161 ?_
        refine w_i2l dX7_chance_162 ?_
        refine w_ldiv dX7_chance_163 (i2l_ne (by omega)) ?_
        refine w_lstore_13 dX7_chance_164 (Nat.le_of_ble_eq_true rfl) rfl ?_
        refine w_iinc_15 (v := 1) dX7_chance_166 (by decide) (Nat.le_of_ble_eq_true rfl) rfl ?_
        refine w_goto (tgt := 101) dX7_chance_169 (by decide) ?_
        refine w_loc_15 (nI_1 k) ?_
        have q9 := ih (k + 1) (by omega)
        rw [e1, e2] at q9
        first
        | (rw [if_neg (Int32.not_le.mpr c_118)] at q9; rw [Int64.add_zero]; exact q9)
        | (rw [if_pos (Int32.not_lt.mp c_118)] at q9; exact q9)
      · skip
        refine w_lload dX7_chance_121 rfl ?_
        refine w_lload dX7_chance_123 rfl ?_
        refine w_iload dX7_chance_125 rfl ?_
        refine w_callSr dX7_chance_127 k_X7_140 (pm_X7_power (by omega)) rfl rfl (Nat.le_of_ble_eq_true rfl) (Nat.le_of_ble_eq_true rfl) (Nat.le_of_ble_eq_true rfl) (rc00 (mlen hb) (Nat.le_refl 0)) ?_
        refine w_lmul dX7_chance_130 ?_
        refine w_lload dX7_chance_131 rfl ?_
        refine w_iload dX7_chance_133 rfl ?_
        refine w_iload dX7_chance_135 rfl ?_
        refine w_isub dX7_chance_137 ?_
        rw [pk_sub (show k ≤ f by omega)]
        refine w_callSr dX7_chance_138 k_X7_140 (pm_X7_power (by omega)) rfl rfl (Nat.le_of_ble_eq_true rfl) (Nat.le_of_ble_eq_true rfl) (Nat.le_of_ble_eq_true rfl) (rc00 (mlen hb) (Nat.le_refl 0)) ?_
        refine w_lmul dX7_chance_141 ?_
        refine w_goto (tgt := 146) dX7_chance_142 (by decide) ?_
        refine w_ladd dX7_chance_146 ?_
        refine w_lstore_11 dX7_chance_147 (Nat.le_of_ble_eq_true rfl) rfl ?_
        refine w_lload dX7_chance_149 rfl ?_
        refine w_iload dX7_chance_151 rfl ?_
        refine w_iload dX7_chance_153 rfl ?_
        refine w_isub dX7_chance_155 ?_
        refine w_i2l dX7_chance_156 ?_
        refine w_lmul dX7_chance_157 ?_
        refine w_iload dX7_chance_158 rfl ?_
        refine w_iconst (v := 1) dX7_chance_160 (by decide) ?_
        refine w_iadd dX7_chance_161 ?_
        refine w_i2l dX7_chance_162 ?_
        refine w_ldiv dX7_chance_163 (i2l_ne (by omega)) ?_
        refine w_lstore_13 dX7_chance_164 (Nat.le_of_ble_eq_true rfl) rfl ?_
        refine w_iinc_15 (v := 1) dX7_chance_166 (by decide) (Nat.le_of_ble_eq_true rfl) rfl ?_
        refine w_goto (tgt := 101) dX7_chance_169 (by decide) ?_
        refine w_loc_15 (nI_1 k) ?_
        have q9 := ih (k + 1) (by omega)
        rw [e1, e2] at q9
        first
        | (rw [if_neg (Int32.not_le.mpr c_118)] at q9; rw [Int64.add_zero]; exact q9)
        | (rw [if_pos (Int32.not_lt.mp c_118)] at q9; exact q9)
  refine w_aload_n dX7_chance_0 rfl ?_
  refine w_iload_n dX7_chance_1 rfl ?_
  refine w_callVr dX7_chance_2 k_X7_117 (pm_X7_lives hb hR) rfl rfl (mg0 hb) rfl (Nat.le_of_ble_eq_true rfl) (Nat.le_of_ble_eq_true rfl) (Nat.le_of_ble_eq_true rfl) (rc00 (mlen hb) (Nat.le_refl 0)) ?_
  refine w_zif_eq_f dX7_chance_5 ⟨15, by decide⟩ hv ?_
  refine w_iload_n dX7_chance_8 rfl ?_
  refine w_callSr dX7_chance_9 k_X7_57 (pm_X7_isBox) rfl rfl (Nat.le_of_ble_eq_true rfl) (Nat.le_of_ble_eq_true rfl) (Nat.le_of_ble_eq_true rfl) (rc00 (mlen hb) (Nat.le_refl 0)) ?_
  refine w_zif_ne_t (tgt := 19) dX7_chance_12 (by decide) (box_of hx) ?_
  refine w_iload_n dX7_chance_19 rfl ?_
  refine w_iconst (v := 0) dX7_chance_20 (by decide) ?_
  refine w_iconst (v := 2) dX7_chance_21 (by decide) ?_
  refine w_callSr dX7_chance_22 k_X7_41 (pm_X7_in) rfl rfl (Nat.le_of_ble_eq_true rfl) (Nat.le_of_ble_eq_true rfl) (Nat.le_of_ble_eq_true rfl) (rc00 (mlen hb) (Nat.le_refl 0)) ?_
  refine w_zif_eq_f dX7_chance_25 ⟨49, by decide⟩ (in_k 2 rfl hn (by decide)) ?_
  refine w_iload dX7_chance_28 rfl ?_
  refine w_iconst (v := 0) dX7_chance_30 (by decide) ?_
  refine w_bipush (v := 10) dX7_chance_31 (by decide) ?_
  refine w_callSr dX7_chance_33 k_X7_41 (pm_X7_in) rfl rfl (Nat.le_of_ble_eq_true rfl) (Nat.le_of_ble_eq_true rfl) (Nat.le_of_ble_eq_true rfl) (rc00 (mlen hb) (Nat.le_refl 0)) ?_
  refine w_zif_eq_f dX7_chance_36 ⟨49, by decide⟩ (in_k 10 rfl hu (by decide)) ?_
  refine w_iload dX7_chance_39 rfl ?_
  refine w_iconst (v := 0) dX7_chance_41 (by decide) ?_
  refine w_iconst (v := 1) dX7_chance_42 (by decide) ?_
  refine w_callSr dX7_chance_43 k_X7_41 (pm_X7_in) rfl rfl (Nat.le_of_ble_eq_true rfl) (Nat.le_of_ble_eq_true rfl) (Nat.le_of_ble_eq_true rfl) (rc00 (mlen hb) (Nat.le_refl 0)) ?_
  refine w_zif_ne_t (tgt := 53) dX7_chance_46 (by decide) hp ?_
  refine w_aload_n dX7_chance_53 rfl ?_
  refine w_get dX7_chance_54 f_X7_7 (mg0 hb) rfl ?_
  refine w_iload_n dX7_chance_57 rfl ?_
  refine w_ialdN (k := s) dX7_chance_58 (mg_bk hb) rfl (by omega) (kk := ?_)
  rw [(hR.1 s hs).1]
  refine w_aload_n dX7_chance_59 rfl ?_
  refine w_get dX7_chance_60 f_X7_16 (mg0 hb) rfl ?_
  refine w_iload_n dX7_chance_63 rfl ?_
  refine w_ialdN (k := x) dX7_chance_64 (mg_wn hb) rfl (by omega) (kk := ?_)
  rw [(hW x hx).1]
  refine w_iand dX7_chance_65 ?_
  refine w_callSr dX7_chance_66 k_X7_53 (pm_X7_bits) rfl rfl (Nat.le_of_ble_eq_true rfl) (Nat.le_of_ble_eq_true rfl) (Nat.le_of_ble_eq_true rfl) (rc00 (mlen hb) (Nat.le_refl 0)) ?_
  rw [felt_mb hN hx hs]
  refine w_top (y := nI (sFelt N (nI x) (nI s)).toNatClampNeg) (bc_c _).symm ?_
  refine w_istore_6 dX7_chance_69 (Nat.le_of_ble_eq_true rfl) rfl ?_
  refine w_iload dX7_chance_71 rfl ?_
  refine w_i2l dX7_chance_73 ?_
  refine w_iload_n dX7_chance_74 rfl ?_
  refine w_callSr dX7_chance_75 k_X7_140 (pm_X7_power (by omega)) rfl rfl (Nat.le_of_ble_eq_true rfl) (Nat.le_of_ble_eq_true rfl) (Nat.le_of_ble_eq_true rfl) (rc00 (mlen hb) (Nat.le_refl 0)) ?_
  refine w_lstore_7 dX7_chance_78 (Nat.le_of_ble_eq_true rfl) rfl ?_
  refine w_ldc2 dX7_chance_80 q_X7_144 ?_
  refine w_iload_n dX7_chance_83 rfl ?_
  refine w_callSr dX7_chance_84 k_X7_140 (pm_X7_power (by omega)) rfl rfl (Nat.le_of_ble_eq_true rfl) (Nat.le_of_ble_eq_true rfl) (Nat.le_of_ble_eq_true rfl) (rc00 (mlen hb) (Nat.le_refl 0)) ?_
  refine w_lload dX7_chance_87 rfl ?_
  refine w_lsub dX7_chance_89 ?_
  refine w_lstore_9 dX7_chance_90 (Nat.le_of_ble_eq_true rfl) rfl ?_
  refine w_lconst (v := 0) dX7_chance_92 (by decide) ?_
  refine w_lstore_11 dX7_chance_93 (Nat.le_of_ble_eq_true rfl) rfl ?_
  refine w_lconst (v := 1) dX7_chance_95 (by decide) ?_
  refine w_lstore_13 dX7_chance_96 (Nat.le_of_ble_eq_true rfl) rfl ?_
  refine w_iconst (v := 0) dX7_chance_98 (by decide) ?_
  refine w_istore_15 dX7_chance_99 (Nat.le_of_ble_eq_true rfl) rfl ?_
  exact loop _ rfl (bc_c64 _) ((sFelt N (nI x) (nI s)).toNatClampNeg + 1) 0 (by omega)

