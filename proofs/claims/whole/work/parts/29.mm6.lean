theorem and_not (x m : Int32) : (x &&& (m ^^^ (-1)) = 0) ↔ (x &&& m = x) := by
  have key : ∀ a b : BitVec 32, (a &&& (b ^^^ (-1#32)) = 0#32) ↔ (a &&& b = a) := by
    intro a b
    have e : b ^^^ (-1#32) = ~~~b := by
      apply BitVec.eq_of_getLsbD_eq
      intro i hi
      simp only [BitVec.getLsbD_xor, BitVec.getLsbD_not, BitVec.neg_one_eq_allOnes, BitVec.getLsbD_allOnes, hi, decide_true, Bool.true_and, Bool.xor_true]
    rw [e]
    constructor
    · intro h
      apply BitVec.eq_of_getLsbD_eq
      intro i hi
      have := congrArg (fun z => z.getLsbD i) h
      simp only [BitVec.getLsbD_and, BitVec.getLsbD_not, hi, decide_true, Bool.true_and, BitVec.getLsbD_zero] at this
      rw [BitVec.getLsbD_and]
      revert this
      cases a.getLsbD i <;> cases b.getLsbD i <;> decide
    · intro h
      apply BitVec.eq_of_getLsbD_eq
      intro i hi
      have := congrArg (fun z => z.getLsbD i) h
      simp only [BitVec.getLsbD_and] at this
      rw [BitVec.getLsbD_and, BitVec.getLsbD_not]
      simp only [hi, decide_true, Bool.true_and, BitVec.getLsbD_zero]
      revert this
      cases a.getLsbD i <;> cases b.getLsbD i <;> decide
  rw [← Int32.toBitVec_inj, ← Int32.toBitVec_inj]
  exact key x.toBitVec m.toBitVec
theorem and_iter (F : Nat → Bool) (b : Bool) : ∀ n, iter (fun j a => a && !F j) n b = (b && !(List.range n).any F)
  | 0 => by
    show b = (b && !([] : List Nat).any F)
    simp
  | n + 1 => by
    rw [iter_s, and_iter F b n, List.range_succ, List.any_append]
    cases b <;> cases (List.range n).any F <;> cases hF : F n <;> simp [hF]
def ntB (N : WS) (s t : Nat) (f : Int32) : Bool := decide (nI t &&& wmk N s = nI t) && decide (f = -6 ∨ bc (nI t) < bc f)
theorem nt_eq {N : WS} {s t : Nat} {f : Int32} (rg : f = -6 ∨ ∃ a, a < 256 ∧ f = nI a) (ht : t < 256) : (if nI t &&& (wmk N s ^^^ (-1)) = 0 then (if f < 0 then 1 else if mb f ≤ mb (nI t) then 0 else 1) else 0) = b2i (ntB N s t f) := by
  rw [ntB]
  have q2 : (nI t &&& wmk N s = nI t) = (nI t &&& (wmk N s ^^^ (-1)) = 0) := propext (and_not _ _).symm
  rw [decide_eq_decide.mpr (Iff.of_eq q2)]
  rcases rg with rfl | ⟨a, ha, rfl⟩
  · by_cases q3 : nI t &&& (wmk N s ^^^ (-1)) = 0
    · rw [if_pos q3, if_pos neg6, decide_eq_true q3, decide_eq_true (Or.inl rfl)]; rfl
    · rw [if_neg q3, decide_eq_false q3]; rfl
  · have q4 : ¬ nI a < 0 := nI_pos (by omega)
    have q5 : ¬ nI a = -6 := fun z => by rw [z] at q4; exact q4 neg6
    rw [mb_bc a ha, mb_bc t ht, if_neg q4]
    by_cases q3 : nI t &&& (wmk N s ^^^ (-1)) = 0
    · rw [if_pos q3, decide_eq_true q3]
      by_cases q6 : bc (nI t) < bc (nI a)
      · rw [if_neg (Int32.not_le.mpr q6), decide_eq_true (Or.inr q6)]; rfl
      · rw [if_pos (Int32.not_lt.mp q6), decide_eq_false (fun z => z.elim q5 q6)]; rfl
    · rw [if_neg q3, decide_eq_false q3]; rfl
theorem an_eq {a L : Bool} {P Q : Prop} [Decidable P] [Decidable Q] : (bif a then (if P then 1 else bif L then (if Q then 0 else 1) else 1) else 0) = b2i (a && !(!decide P && (L && decide Q))) := by
  cases a <;> cases L <;> by_cases hP : P <;> by_cases hQ : Q <;> simp [hP, hQ, b2i]
theorem note_step {N : WS} {s t : Nat} {f : Int32} (hs : s < 8) : fNote N (nI s) t f = bif iter (fun j a => a && !sAnoF N (nI s) (nI t) j) 8 (ntB N s t f) then nI t else f := by
  rw [and_iter, fNote, cl8 (by omega), ntB, sAno]
  cases decide (nI t &&& wmk N s = nI t) <;> cases decide (f = -6 ∨ bc (nI t) < bc f) <;> cases (List.range 8).any (sAnoF N (nI s) (nI t)) <;> rfl
theorem note_end {X q : Int32} (fin : mb X = bc X ∨ X < 0) : (if X < 0 then X else if q = 1 then X else mb X) = (if X < 0 then X else if q = 1 then X else bc X) := by
  rcases fin with e | e
  · rw [e]
  · rw [if_pos e, if_pos e]
theorem note_rng (N : WS) (s : Int32) : ∀ k, k ≤ 256 → iter (fNote N s) k (-6) = -6 ∨ ∃ a, a < 256 ∧ iter (fNote N s) k (-6) = nI a
  | 0, _ => Or.inl rfl
  | k + 1, h => by
    rw [iter_s, fNote]
    split
    · exact Or.inr ⟨k, by omega, rfl⟩
    · exact note_rng N s k (by omega)
set_option maxRecDepth 100000 in
set_option maxHeartbeats 1000000 in
theorem pm_X7_note_a {l : Launch} {D : va_G} {h : PH} {M : MS} (hb : 38 < h.length) {N : WS} (hR : RB N (mbk M)) (hW : RW N M) (hN : NOk N) {s : Nat} (hs : s < 8) (hv : sLiv N (nI s) = true) {q : Int32} (hq : sIn q 0 1 = true) : PM l D YX7_note 4 [.ref 28, .int (nI s), .int q] (mput h M) 0 0 (some (.int (if sNote N (nI s) < 0 then sNote N (nI s) else if q = 1 then sNote N (nI s) else bc (sNote N (nI s))))) (mput h M) := by
  refine pm_of2 (n0 := h.length) kb_YX7_note (mlen hb) [some (.ref 28), some (.int (nI s)), some (.int q), none, none, none, none] (fun _ => rfl) (fun _ => (Nat.le_of_ble_eq_true rfl)) ?_
  have inner : ∀ (t : Nat) (f : Int32) (b0 : Bool), (∀ o, Wp l D YX7_note (pRm 4 0 0) h.length (fun _ _ _ => True) (mE D h.length 0 0 (some (.int (if sNote N (nI s) < 0 then sNote N (nI s) else if q = 1 then sNote N (nI s) else bc (sNote N (nI s))))) (mput h M)) 131 [some (.ref 28), some (.int (nI s)), some (.int q), some (.int f), some (.int (nI t)), some (.int (b2i (iter (fun j a => a && !sAnoF N (nI s) (nI t) j) 8 b0))), o] [] (mput h M) 0) → ∀ (k j : Nat), j + k = 8 → Wp l D YX7_note (pRm 4 0 0) h.length (fun _ _ _ => True) (mE D h.length 0 0 (some (.int (if sNote N (nI s) < 0 then sNote N (nI s) else if q = 1 then sNote N (nI s) else bc (sNote N (nI s))))) (mput h M)) 76 [some (.ref 28), some (.int (nI s)), some (.int q), some (.int f), some (.int (nI t)), some (.int (b2i (iter (fun j a => a && !sAnoF N (nI s) (nI t) j) j b0))), some (.int (nI j))] [] (mput h M) 0 := by
    intro t f b0 out k
    induction k with
    | zero =>
      intro j hj
      have hj : j = 8 := by omega
      subst hj
      refine w_iload dX7_note_76 rfl ?_
      refine w_bipush (v := 8) dX7_note_78 (by decide) ?_
      refine w_icmp_ge_t (tgt := 131) dX7_note_80 (by decide) (Int32.le_refl _) ?_
      exact out _
    | succ k ih =>
      intro j hj
      have eB := iter_s (fun j a => a && !sAnoF N (nI s) (nI t) j) j b0
      generalize (iter (fun j a => a && !sAnoF N (nI s) (nI t) j) j b0) = a at eB ⊢
      refine w_iload dX7_note_76 rfl ?_
      refine w_bipush (v := 8) dX7_note_78 (by decide) ?_
      refine w_icmp_ge_f dX7_note_80 ⟨131, by decide⟩ (lp_g hj (by decide) rfl) ?_
      refine w_iload dX7_note_83 rfl ?_
      refine w_ztif_eq (a := ?a85_1) (b := ?b85_1) (pJ := 123) (tgt := 122) dX7_note_85 (by decide) (fun c_85 k => ?hA85_1) (fun c_85 k => ?hB85_1) ?hk85_1
      case hA85_1 =>
        refine w_iconst (v := 0) dX7_note_122 (by decide) ?_
        exact k
      case hB85_1 =>
        refine w_iload dX7_note_88 rfl ?_
        refine w_iload_n dX7_note_90 rfl ?_
        refine w_ticmp_eq (a := ?a91_2) (b := ?b91_2) (pJ := 123) (tgt := 118) dX7_note_91 (by decide) (fun c_91 k => ?hA91_2) (fun c_91 k => ?hB91_2) ?hk91_2
        case hA91_2 =>
          refine w_iconst (v := 1) dX7_note_118 (by decide) ?_
          refine w_goto (tgt := 123) dX7_note_119 (by decide) ?_
          exact k
        case hB91_2 =>
          refine w_aload_n dX7_note_94 rfl ?_
          refine w_iload dX7_note_95 rfl ?_
          refine w_callVr dX7_note_97 k_X7_117 (pm_X7_lives hb hR) rfl rfl (mg0 hb) rfl (Nat.le_of_ble_eq_true rfl) (Nat.le_of_ble_eq_true rfl) (Nat.le_of_ble_eq_true rfl) (rc00 (mlen hb) (Nat.le_refl 0)) ?_
          refine w_ztif_eq (a := ?a100_3) (b := ?b100_3) (pJ := 123) (tgt := 118) dX7_note_100 (by decide) (fun c_100 k => ?hA100_3) (fun c_100 k => ?hB100_3) ?hk100_3
          case hA100_3 =>
            refine w_iconst (v := 1) dX7_note_118 (by decide) ?_
            refine w_goto (tgt := 123) dX7_note_119 (by decide) ?_
            exact k
          case hB100_3 =>
            refine w_iload dX7_note_103 rfl ?_
            refine w_aload_n dX7_note_105 rfl ?_
            refine w_get dX7_note_106 f_X7_7 (mg0 hb) rfl ?_
            refine w_iload dX7_note_109 rfl ?_
            refine w_ialdN (k := j) dX7_note_111 (mg_bk hb) rfl (by omega) (kk := ?_)
            rw [(hR.1 j (by omega)).1]
            refine w_iconst (v := (-1)) dX7_note_112 (by decide) ?_
            refine w_ixor dX7_note_113 ?_
            refine w_iand dX7_note_114 ?_
            refine w_tif_eq (a := ?a115_4) (b := ?b115_4) (pJ := 123) (tgt := 122) dX7_note_115 (by decide) (fun c_115 k => ?hA115_4) (fun c_115 k => ?hB115_4) ?hk115_4
            case hA115_4 =>
              refine w_iconst (v := 0) dX7_note_122 (by decide) ?_
              exact k
            case hB115_4 =>
              refine w_iconst (v := 1) dX7_note_118 (by decide) ?_
              refine w_goto (tgt := 123) dX7_note_119 (by decide) ?_
              exact k
            exact k
          exact k
        exact k
      refine w_istore_5 dX7_note_123 (Nat.le_of_ble_eq_true rfl) rfl ?_
      refine w_iinc_6 (v := 1) dX7_note_125 (by decide) (Nat.le_of_ble_eq_true rfl) rfl ?_
      refine w_goto (tgt := 76) dX7_note_128 (by decide) ?_
      refine w_loc_6 (nI_1 j) (w_loc_5 ?_ (ih (j + 1) (by omega)))
      rw [eB, sAnoF, cl8 (show j < 1000 by omega)]
      have q2 : (wmk N j &&& nI t = nI t) = (nI t &&& (wmk N j ^^^ (-1)) = 0) := propext (by rw [and_not, show wmk N j &&& nI t = nI t &&& wmk N j from Int32.and_comm _ _])
      rw [decide_eq_decide.mpr (Iff.of_eq q2)]
      exact an_eq
  have loop : ∀ (k t : Nat), t + k = 256 → ∀ o1 o2, Wp l D YX7_note (pRm 4 0 0) h.length (fun _ _ _ => True) (mE D h.length 0 0 (some (.int (if sNote N (nI s) < 0 then sNote N (nI s) else if q = 1 then sNote N (nI s) else bc (sNote N (nI s))))) (mput h M)) 28 [some (.ref 28), some (.int (nI s)), some (.int q), some (.int (iter (fNote N (nI s)) t (-6))), some (.int (nI t)), o1, o2] [] (mput h M) 0 := by
    intro k
    induction k with
    | zero =>
      intro t ht o1 o2
      have ht : t = 256 := by omega
      subst ht
      have fin : mb (sNote N (nI s)) = bc (sNote N (nI s)) ∨ sNote N (nI s) < 0 := by
        rcases note_rng N (nI s) 256 (by decide) with e | ⟨a, ha, e⟩
        · exact Or.inr (by rw [sNote, e]; decide)
        · exact Or.inl (by rw [sNote, e]; exact mb_bc a ha)
      have hS : iter (fNote N (nI s)) 256 (-6) = sNote N (nI s) := by rw [sNote]
      rw [hS]
      refine w_iload dX7_note_28 rfl ?_
      refine w_sipush (v := 256) dX7_note_30 (by decide) ?_
      refine w_icmp_ge_t (tgt := 149) dX7_note_33 (by decide) (Int32.le_refl _) ?_
      refine w_iload_n dX7_note_149 rfl ?_
      refine w_tif_lt (a := ?a150_5) (b := ?b150_5) (pJ := 166) (tgt := 158) dX7_note_150 (by decide) (fun c_150 k => ?hA150_5) (fun c_150 k => ?hB150_5) ?hk150_5
      case hA150_5 =>
        refine w_iload_n dX7_note_158 rfl ?_
        refine w_goto (tgt := 166) dX7_note_159 (by decide) ?_
        exact k
      case hB150_5 =>
        refine w_iload_n dX7_note_153 rfl ?_
        refine w_iconst (v := 1) dX7_note_154 (by decide) ?_
        refine w_ticmp_ne (a := ?a155_6) (b := ?b155_6) (pJ := 166) (tgt := 162) dX7_note_155 (by decide) (fun c_155 k => ?hA155_6) (fun c_155 k => ?hB155_6) ?hk155_6
        case hA155_6 =>
          refine w_iload_n dX7_note_162 rfl ?_
          refine w_callSr dX7_note_163 k_X7_53 (pm_X7_bits) rfl rfl (Nat.le_of_ble_eq_true rfl) (Nat.le_of_ble_eq_true rfl) (Nat.le_of_ble_eq_true rfl) (rc00 (mlen hb) (Nat.le_refl 0)) ?_
          exact k
        case hB155_6 =>
          refine w_iload_n dX7_note_158 rfl ?_
          refine w_goto (tgt := 166) dX7_note_159 (by decide) ?_
          exact k
        exact k
      exact w_iret dX7_note_166 rfl (note_end fin) rfl (mlen hb) (Nat.le_refl 0)
    | succ k ih =>
      intro t ht o1 o2
      have eN := iter_s (fNote N (nI s)) t (-6)
      have rg := note_rng N (nI s) t (by omega)
      generalize iter (fNote N (nI s)) t (-6) = f at eN rg ⊢
      rw [note_step hs] at eN
      refine w_iload dX7_note_28 rfl ?_
      refine w_sipush (v := 256) dX7_note_30 (by decide) ?_
      refine w_icmp_ge_f dX7_note_33 ⟨149, by decide⟩ (lp_g ht (by decide) rfl) ?_
      refine w_iload dX7_note_36 rfl ?_
      refine w_aload_n dX7_note_38 rfl ?_
      refine w_get dX7_note_39 f_X7_7 (mg0 hb) rfl ?_
      refine w_iload_n dX7_note_42 rfl ?_
      refine w_ialdN (k := s) dX7_note_43 (mg_bk hb) rfl (by omega) (kk := ?_)
      rw [(hR.1 s hs).1]
      refine w_iconst (v := (-1)) dX7_note_44 (by decide) ?_
      refine w_ixor dX7_note_45 ?_
      refine w_iand dX7_note_46 ?_
      refine w_tif_ne (a := ?a47_7) (b := ?b47_7) (pJ := 71) (tgt := 70) dX7_note_47 (by decide) (fun c_47 k => ?hA47_7) (fun c_47 k => ?hB47_7) ?hk47_7
      case hA47_7 =>
        refine w_iconst (v := 0) dX7_note_70 (by decide) ?_
        exact k
      case hB47_7 =>
        refine w_iload_n dX7_note_50 rfl ?_
        refine w_tif_lt (a := ?a51_8) (b := ?b51_8) (pJ := 71) (tgt := 66) dX7_note_51 (by decide) (fun c_51 k => ?hA51_8) (fun c_51 k => ?hB51_8) ?hk51_8
        case hA51_8 =>
          refine w_iconst (v := 1) dX7_note_66 (by decide) ?_
          refine w_goto (tgt := 71) dX7_note_67 (by decide) ?_
          exact k
        case hB51_8 =>
          refine w_iload dX7_note_54 rfl ?_
          refine w_callSr dX7_note_56 k_X7_53 (pm_X7_bits) rfl rfl (Nat.le_of_ble_eq_true rfl) (Nat.le_of_ble_eq_true rfl) (Nat.le_of_ble_eq_true rfl) (rc00 (mlen hb) (Nat.le_refl 0)) ?_
          refine w_iload_n dX7_note_59 rfl ?_
          refine w_callSr dX7_note_60 k_X7_53 (pm_X7_bits) rfl rfl (Nat.le_of_ble_eq_true rfl) (Nat.le_of_ble_eq_true rfl) (Nat.le_of_ble_eq_true rfl) (rc00 (mlen hb) (Nat.le_refl 0)) ?_
          refine w_ticmp_ge (a := ?a63_9) (b := ?b63_9) (pJ := 71) (tgt := 70) dX7_note_63 (by decide) (fun c_63 k => ?hA63_9) (fun c_63 k => ?hB63_9) ?hk63_9
          case hA63_9 =>
            refine w_iconst (v := 0) dX7_note_70 (by decide) ?_
            exact k
          case hB63_9 =>
            refine w_iconst (v := 1) dX7_note_66 (by decide) ?_
            refine w_goto (tgt := 71) dX7_note_67 (by decide) ?_
            exact k
          exact k
        exact k
      refine w_top (nt_eq rg (by omega)) ?_
      refine w_istore_5 dX7_note_71 (Nat.le_of_ble_eq_true rfl) rfl ?_
      refine w_iconst (v := 0) dX7_note_73 (by decide) ?_
      refine w_istore_6 dX7_note_74 (Nat.le_of_ble_eq_true rfl) rfl ?_
      refine inner t f (ntB N s t f) (fun o => ?_) 8 0 rfl
      refine w_iload dX7_note_131 rfl ?_
      refine w_ztif_eq (a := ?a133_10) (b := ?b133_10) (pJ := 142) (tgt := 141) dX7_note_133 (by decide) (fun c_133 k => ?hA133_10) (fun c_133 k => ?hB133_10) ?hk133_10
      case hA133_10 =>
        refine w_iload_n dX7_note_141 rfl ?_
        exact k
      case hB133_10 =>
        refine w_iload dX7_note_136 rfl ?_
        refine w_goto (tgt := 142) dX7_note_138 (by decide) ?_
        exact k
      refine w_istore_3 dX7_note_142 (Nat.le_of_ble_eq_true rfl) rfl ?_
      refine w_iinc_4 (v := 1) dX7_note_143 (by decide) (Nat.le_of_ble_eq_true rfl) rfl ?_
      refine w_goto (tgt := 28) dX7_note_146 (by decide) ?_
      rw [← eN]
      exact w_loc_4 (nI_1 t) (ih (t + 1) (by omega) _ _)
  refine w_aload_n dX7_note_0 rfl ?_
  refine w_iload_n dX7_note_1 rfl ?_
  refine w_callVr dX7_note_2 k_X7_117 (pm_X7_lives hb hR) rfl rfl (mg0 hb) rfl (Nat.le_of_ble_eq_true rfl) (Nat.le_of_ble_eq_true rfl) (Nat.le_of_ble_eq_true rfl) (rc00 (mlen hb) (Nat.le_refl 0)) ?_
  refine w_zif_ne_t (tgt := 10) dX7_note_5 (by decide) hv ?_
  refine w_iload_n dX7_note_10 rfl ?_
  refine w_iconst (v := 0) dX7_note_11 (by decide) ?_
  refine w_iconst (v := 1) dX7_note_12 (by decide) ?_
  refine w_callSr dX7_note_13 k_X7_41 (pm_X7_in) rfl rfl (Nat.le_of_ble_eq_true rfl) (Nat.le_of_ble_eq_true rfl) (Nat.le_of_ble_eq_true rfl) (rc00 (mlen hb) (Nat.le_refl 0)) ?_
  refine w_zif_ne_t (tgt := 22) dX7_note_16 (by decide) hq ?_
  refine w_bipush (v := (-6)) dX7_note_22 (by decide) ?_
  refine w_istore_3 dX7_note_24 (Nat.le_of_ble_eq_true rfl) rfl ?_
  refine w_iconst (v := 0) dX7_note_25 (by decide) ?_
  refine w_istore_4 dX7_note_26 (Nat.le_of_ble_eq_true rfl) rfl ?_
  exact loop 256 0 rfl _ _

set_option maxRecDepth 100000 in
set_option maxHeartbeats 1000000 in
theorem pm_X7_note_r {l : Launch} {D : va_G} {h : PH} {M : MS} (hb : 38 < h.length) {N : WS} (hR : RB N (mbk M)) {s q : Int32} (hn : (sLiv N s && sIn q 0 1) = false) : PM l D YX7_note 4 [.ref 28, .int s, .int q] (mput h M) 0 0 (some (.int (if sLiv N s then -2 else -1))) (mput h M) := by
  refine pm_of2 (n0 := h.length) kb_YX7_note (mlen hb) [some (.ref 28), some (.int s), some (.int q), none, none, none, none] (fun _ => rfl) (fun _ => (Nat.le_of_ble_eq_true rfl)) ?_
  refine w_aload_n dX7_note_0 rfl ?_
  refine w_iload_n dX7_note_1 rfl ?_
  refine w_callVr dX7_note_2 k_X7_117 (pm_X7_lives hb hR) rfl rfl (mg0 hb) rfl (Nat.le_of_ble_eq_true rfl) (Nat.le_of_ble_eq_true rfl) (Nat.le_of_ble_eq_true rfl) (rc00 (mlen hb) (Nat.le_refl 0)) ?_
  refine w_zif_ne (tgt := 10) dX7_note_5 (by decide) (fun c_5 => ?_) (fun c_5 => ?_)
  · skip
    refine w_iload_n dX7_note_10 rfl ?_
    refine w_iconst (v := 0) dX7_note_11 (by decide) ?_
    refine w_iconst (v := 1) dX7_note_12 (by decide) ?_
    refine w_callSr dX7_note_13 k_X7_41 (pm_X7_in) rfl rfl (Nat.le_of_ble_eq_true rfl) (Nat.le_of_ble_eq_true rfl) (Nat.le_of_ble_eq_true rfl) (rc00 (mlen hb) (Nat.le_refl 0)) ?_
    refine w_zif_ne (tgt := 22) dX7_note_16 (by decide) (fun c_16 => ?_) (fun c_16 => ?_)
    · skip
      simp only [*, Bool.and_self] at hn
      cases hn
    · skip
      refine w_bipush (v := (-2)) dX7_note_19 (by decide) ?_
      exact w_iret dX7_note_21 rfl (by simp only [if_pos, if_neg, not_false_eq_true, if_true, if_false, Bool.false_eq_true, c_5, c_16]) rfl (mlen hb) (Nat.le_refl 0)
  · skip
    refine w_iconst (v := (-1)) dX7_note_8 (by decide) ?_
    exact w_iret dX7_note_9 rfl (by simp only [if_pos, if_neg, not_false_eq_true, if_true, if_false, Bool.false_eq_true, c_5]) rfl (mlen hb) (Nat.le_refl 0)

def mx2 (b o : Int32) : Int32 := if o ≤ b then b else o
def fLb (N : WS) (m : Nat → Int32) (i g : Nat) (b : Nat) (a : Int32) : Int32 := if sLets N (nI b) (nI i) && !g.testBit b then mx2 a (wco N b + m (64 * i + 64 + (g ||| 2 ^ b))) else a
def lmB (N : WS) (m : Nat → Int32) (i g : Nat) : Int32 := iter (fLb N m i g) 6 (m (64 * i + 64 + g))
def fLm (N : WS) (i : Nat) (g : Nat) (m : Nat → Int32) : Nat → Int32 := upd m (64 * i + g) (lmB N m i g)
def lmR (N : WS) (i : Nat) (m : Nat → Int32) : Nat → Int32 := iter (fLm N i) 64 m
def lmD (N : WS) : Nat → (Nat → Int32) → Nat → Int32
  | 0, m => m
  | k + 1, m => lmD N k (lmR N k m)
theorem or_lt6 : ∀ g, g < 64 → ∀ b, b < 6 → g ||| 2 ^ b < 64 := by decide +kernel
set_option maxRecDepth 100000 in
set_option maxHeartbeats 1000000 in
theorem pm_X7_layMatch {l : Launch} {D : va_G} {h : PH} {M : MS} (hb : 38 < h.length) {N : WS} (hR : RB N (mbk M)) (hW : RW N M) (hN : NOk N) : PM l D YX7_layMatch 4 [.ref 28] (mput h M) 0 0 none (mput h (tmo M (lmD N 8 (mmo M)))) := by
  refine pm_of2 (n0 := h.length) kb_YX7_layMatch (mlen hb) [some (.ref 28), none, none, none, none, none] (fun _ => rfl) (fun _ => (Nat.le_of_ble_eq_true rfl)) ?_
  have hR' : ∀ f, RB N (mbk (tmo M f)) := fun _ => hR
  have hW' : ∀ f, RW N (tmo M f) := fun _ => hW
  have in3 : ∀ (i g : Nat) (f : Nat → Int32), i < 8 → g < 64 → (∀ o1 o2, Wp l D YX7_layMatch (pRm 4 0 0) h.length (fun _ _ _ => True) (mE D h.length 0 0 none (mput h (tmo M (lmD N 8 (mmo M))))) 123 [some (.ref 28), some (.int (nI i)), some (.int (nI g)), some (.int (lmB N f i g)), o1, o2] [] (mput h (tmo M f)) 0) → ∀ (k b : Nat), b + k = 6 → ∀ o, Wp l D YX7_layMatch (pRm 4 0 0) h.length (fun _ _ _ => True) (mE D h.length 0 0 none (mput h (tmo M (lmD N 8 (mmo M))))) 33 [some (.ref 28), some (.int (nI i)), some (.int (nI g)), some (.int (iter (fLb N f i g) b (f (64 * i + 64 + g)))), some (.int (nI b)), o] [] (mput h (tmo M f)) 0 := by
    intro i g f hi hg out k
    induction k with
    | zero =>
      intro b hb2 o
      have hb2 : b = 6 := by omega
      subst hb2
      refine w_iload dX7_layMatch_33 rfl ?_
      refine w_bipush (v := 6) dX7_layMatch_35 (by decide) ?_
      refine w_icmp_ge_t (tgt := 123) dX7_layMatch_37 (by decide) (Int32.le_refl _) ?_
      exact out _ _
    | succ k ih =>
      intro b hb2 o
      have eB := iter_s (fLb N f i g) b (f (64 * i + 64 + g))
      rw [fLb, lets_nI (show b < 6 by omega)] at eB
      generalize iter (fLb N f i g) b (f (64 * i + 64 + g)) = a at eB ⊢
      refine w_iload dX7_layMatch_33 rfl ?_
      refine w_bipush (v := 6) dX7_layMatch_35 (by decide) ?_
      refine w_icmp_ge_f dX7_layMatch_37 ⟨123, by decide⟩ (lp_g hb2 (by decide) rfl) ?_
      refine w_aload_n dX7_layMatch_40 rfl ?_
      refine w_iload_n dX7_layMatch_41 rfl ?_
      refine w_callVr dX7_layMatch_42 k_X7_117 (pm_X7_lives hb (hR' _)) rfl rfl (mg0 hb) rfl (Nat.le_of_ble_eq_true rfl) (Nat.le_of_ble_eq_true rfl) (Nat.le_of_ble_eq_true rfl) (rc00 (mlen hb) (Nat.le_refl 0)) ?_
      refine w_zif_eq (tgt := 117) dX7_layMatch_45 (by decide) (fun c_45 => ?_) (fun c_45 => ?_)
      · skip
        refine w_iinc_4 (v := 1) dX7_layMatch_117 (by decide) (Nat.le_of_ble_eq_true rfl) rfl ?_
        refine w_goto (tgt := 33) dX7_layMatch_120 (by decide) ?_
        refine w_loc_4 (nI_1 b) (w_loc_3 ?_ (ih (b + 1) (by omega) _))
        rw [eB]
        simp only [*, Bool.true_and, Bool.false_and, Bool.and_true, Bool.and_false, Bool.not_true, Bool.not_false, Bool.false_eq_true, if_false, if_true]
        try rfl
      · skip
        refine w_iload_n dX7_layMatch_48 rfl ?_
        refine w_iload dX7_layMatch_49 rfl ?_
        refine w_callSr dX7_layMatch_51 k_X7_49 (pm_X7_has) rfl rfl (Nat.le_of_ble_eq_true rfl) (Nat.le_of_ble_eq_true rfl) (Nat.le_of_ble_eq_true rfl) (rc00 (mlen hb) (Nat.le_refl 0)) ?_
        rw [bit_nI g (by omega) b (by omega)]
        refine w_zif_ne (tgt := 117) dX7_layMatch_54 (by decide) (fun c_54 => ?_) (fun c_54 => ?_)
        · skip
          refine w_iinc_4 (v := 1) dX7_layMatch_117 (by decide) (Nat.le_of_ble_eq_true rfl) rfl ?_
          refine w_goto (tgt := 33) dX7_layMatch_120 (by decide) ?_
          refine w_loc_4 (nI_1 b) (w_loc_3 ?_ (ih (b + 1) (by omega) _))
          rw [eB]
          simp only [*, Bool.true_and, Bool.false_and, Bool.and_true, Bool.and_false, Bool.not_true, Bool.not_false, Bool.false_eq_true, if_false, if_true]
          try rfl
        · skip
          refine w_aload_n dX7_layMatch_57 rfl ?_
          refine w_iload dX7_layMatch_58 rfl ?_
          refine w_aload_n dX7_layMatch_60 rfl ?_
          refine w_get dX7_layMatch_61 f_X7_7 (mg0 hb) rfl ?_
          refine w_iload_n dX7_layMatch_64 rfl ?_
          refine w_ialdN (k := i) dX7_layMatch_65 (mg_bk hb) rfl (by omega) (kk := ?_)
          change Wp _ _ _ _ _ _ _ _ _ (.int (mbk M i) :: _) _ _
          rw [(hR.1 i hi).1]
          refine w_callVr dX7_layMatch_66 k_X7_77 (pm_X7_doesOpen hb (hW' _) (by omega)) rfl rfl (mg0 hb) rfl (Nat.le_of_ble_eq_true rfl) (Nat.le_of_ble_eq_true rfl) (Nat.le_of_ble_eq_true rfl) (rc00 (mlen hb) (Nat.le_refl 0)) ?_
          rw [felt_mb hN (show b < 6 by omega) hi]
          refine w_zif_eq (tgt := 117) dX7_layMatch_69 (by decide) (fun c_69 => ?_) (fun c_69 => ?_)
          · skip
            refine w_iinc_4 (v := 1) dX7_layMatch_117 (by decide) (Nat.le_of_ble_eq_true rfl) rfl ?_
            refine w_goto (tgt := 33) dX7_layMatch_120 (by decide) ?_
            refine w_loc_4 (nI_1 b) (w_loc_3 ?_ (ih (b + 1) (by omega) _))
            rw [eB]
            simp only [*, Bool.true_and, Bool.false_and, Bool.and_true, Bool.and_false, Bool.not_true, Bool.not_false, Bool.false_eq_true, if_false, if_true]
            try rfl
          · skip
            refine w_aload_n dX7_layMatch_72 rfl ?_
            refine w_get dX7_layMatch_73 f_X7_7 (mg0 hb) rfl ?_
            refine w_bipush (v := 88) dX7_layMatch_76 (by decide) ?_
            refine w_iload dX7_layMatch_78 rfl ?_
            refine w_iadd dX7_layMatch_80 ?_
            refine w_ialdN (k := (88 + b)) dX7_layMatch_81 (mg_bk hb) (nadd rfl rfl) (by omega) (kk := ?_)
            change Wp _ _ _ _ _ _ _ _ _ (.int (mbk M (88 + b)) :: _) _ _
            rw [hR.2.2.1 b (by omega)]
            refine w_aload_n dX7_layMatch_82 rfl ?_
            refine w_get dX7_layMatch_83 f_X7_28 (mg0 hb) rfl ?_
            refine w_bipush (v := 64) dX7_layMatch_86 (by decide) ?_
            refine w_iload_n dX7_layMatch_88 rfl ?_
            refine w_imul dX7_layMatch_89 ?_
            refine w_bipush (v := 64) dX7_layMatch_90 (by decide) ?_
            refine w_iadd dX7_layMatch_92 ?_
            refine w_iload_n dX7_layMatch_93 rfl ?_
            refine w_iconst (v := 1) dX7_layMatch_94 (by decide) ?_
            refine w_iload dX7_layMatch_95 rfl ?_
            refine w_ishl dX7_layMatch_97 ?_
            refine w_ior dX7_layMatch_98 ?_
            rw [shl_nI b (by omega), nI_or]
            refine w_iadd dX7_layMatch_99 ?_
            have hgb := or_lt6 g hg b (by omega)
            refine w_ialdN (k := (((64 * i) + 64) + (g ||| 2 ^ b))) dX7_layMatch_100 (mg_mo hb) (nadd (nadd (nmul rfl rfl) rfl) rfl) (by omega) (kk := ?_)
            refine w_iadd dX7_layMatch_101 ?_
            refine w_istore_5 dX7_layMatch_102 (Nat.le_of_ble_eq_true rfl) rfl ?_
            refine w_iload dX7_layMatch_104 rfl ?_
            refine w_iload_n dX7_layMatch_106 rfl ?_
            refine w_ticmp_le (a := ?a107_1) (b := ?b107_1) (pJ := 116) (tgt := 115) dX7_layMatch_107 (by decide) (fun c_107 k => ?hA107_1) (fun c_107 k => ?hB107_1) ?hk107_1
            case hA107_1 =>
              refine w_iload_n dX7_layMatch_115 rfl ?_
              exact k
            case hB107_1 =>
              refine w_iload dX7_layMatch_110 rfl ?_
              refine w_goto (tgt := 116) dX7_layMatch_112 (by decide) ?_
              exact k
            refine w_istore_3 dX7_layMatch_116 (Nat.le_of_ble_eq_true rfl) rfl ?_
            refine w_iinc_4 (v := 1) dX7_layMatch_117 (by decide) (Nat.le_of_ble_eq_true rfl) rfl ?_
            refine w_goto (tgt := 33) dX7_layMatch_120 (by decide) ?_
            refine w_loc_4 (nI_1 b) (w_loc_3 ?_ (ih (b + 1) (by omega) _))
            rw [eB]
            simp only [*, Bool.true_and, Bool.false_and, Bool.and_true, Bool.and_false, Bool.not_true, Bool.not_false, Bool.false_eq_true, if_false, if_true]
            try rfl
  have in2 : ∀ (i : Nat) (m0 : Nat → Int32), i < 8 → (∀ o1 o2 o3 o4, Wp l D YX7_layMatch (pRm 4 0 0) h.length (fun _ _ _ => True) (mE D h.length 0 0 none (mput h (tmo M (lmD N 8 (mmo M))))) 141 [some (.ref 28), some (.int (nI i)), o1, o2, o3, o4] [] (mput h (tmo M (lmR N i m0))) 0) → ∀ (k g : Nat), g + k = 64 → ∀ o1 o2 o3, Wp l D YX7_layMatch (pRm 4 0 0) h.length (fun _ _ _ => True) (mE D h.length 0 0 none (mput h (tmo M (lmD N 8 (mmo M))))) 9 [some (.ref 28), some (.int (nI i)), some (.int (nI g)), o1, o2, o3] [] (mput h (tmo M (iter (fLm N i) g m0))) 0 := by
    intro i m0 hi out k
    induction k with
    | zero =>
      intro g hg o1 o2 o3
      have hg : g = 64 := by omega
      subst hg
      refine w_iload_n dX7_layMatch_9 rfl ?_
      refine w_bipush (v := 64) dX7_layMatch_10 (by decide) ?_
      refine w_icmp_ge_t (tgt := 141) dX7_layMatch_12 (by decide) (Int32.le_refl _) ?_
      exact out _ _ _ _
    | succ k ih =>
      intro g hg o1 o2 o3
      have eM := iter_s (fLm N i) g m0
      rw [fLm] at eM
      generalize iter (fLm N i) g m0 = f at eM ⊢
      refine w_iload_n dX7_layMatch_9 rfl ?_
      refine w_bipush (v := 64) dX7_layMatch_10 (by decide) ?_
      refine w_icmp_ge_f dX7_layMatch_12 ⟨141, by decide⟩ (lp_g hg (by decide) rfl) ?_
      refine w_aload_n dX7_layMatch_15 rfl ?_
      refine w_get dX7_layMatch_16 f_X7_28 (mg0 hb) rfl ?_
      refine w_bipush (v := 64) dX7_layMatch_19 (by decide) ?_
      refine w_iload_n dX7_layMatch_21 rfl ?_
      refine w_imul dX7_layMatch_22 ?_
      refine w_bipush (v := 64) dX7_layMatch_23 (by decide) ?_
      refine w_iadd dX7_layMatch_25 ?_
      refine w_iload_n dX7_layMatch_26 rfl ?_
      refine w_iadd dX7_layMatch_27 ?_
      refine w_ialdN (k := (((64 * i) + 64) + g)) dX7_layMatch_28 (mg_mo hb) (nadd (nadd (nmul rfl rfl) rfl) rfl) (by omega) (kk := ?_)
      refine w_istore_3 dX7_layMatch_29 (Nat.le_of_ble_eq_true rfl) rfl ?_
      refine w_iconst (v := 0) dX7_layMatch_30 (by decide) ?_
      refine w_istore_4 dX7_layMatch_31 (Nat.le_of_ble_eq_true rfl) rfl ?_
      refine w_loc_3 (iter_0 (fLb N f i g) _) (in3 i g f hi (by omega) (fun o1 o2 => ?_) 6 0 rfl _)
      refine w_aload_n dX7_layMatch_123 rfl ?_
      refine w_get dX7_layMatch_124 f_X7_28 (mg0 hb) rfl ?_
      refine w_bipush (v := 64) dX7_layMatch_127 (by decide) ?_
      refine w_iload_n dX7_layMatch_129 rfl ?_
      refine w_imul dX7_layMatch_130 ?_
      refine w_iload_n dX7_layMatch_131 rfl ?_
      refine w_iadd dX7_layMatch_132 ?_
      refine w_iload_n dX7_layMatch_133 rfl ?_
      refine w_aMn_mo (k := ((64 * i) + g)) dX7_layMatch_134 hb (nadd (nmul rfl rfl) rfl) (by omega) ?_
      refine w_iinc_2 (v := 1) dX7_layMatch_135 (by decide) (Nat.le_of_ble_eq_true rfl) rfl ?_
      refine w_goto (tgt := 9) dX7_layMatch_138 (by decide) ?_
      refine w_loc_2 (nI_1 g) ?_
      have q9 := ih (g + 1) (by omega)
      rw [eM] at q9
      exact q9 _ _ _
  have loop : ∀ (k : Nat) (m0 : Nat → Int32), k ≤ 8 → lmD N k m0 = lmD N 8 (mmo M) → ∀ o1 o2 o3 o4, Wp l D YX7_layMatch (pRm 4 0 0) h.length (fun _ _ _ => True) (mE D h.length 0 0 none (mput h (tmo M (lmD N 8 (mmo M))))) 3 [some (.ref 28), some (.int (nI k + (-1))), o1, o2, o3, o4] [] (mput h (tmo M m0)) 0 := by
    intro k
    induction k with
    | zero =>
      intro m0 hk hr o1 o2 o3 o4
      refine w_iload_n dX7_layMatch_3 rfl ?_
      refine w_if_lt_t (tgt := 147) dX7_layMatch_4 (by decide) (by decide) ?_
      exact w_vret dX7_layMatch_147 rfl (by rw [← hr, lmD]) (mlen hb) (Nat.le_refl 0)
    | succ k ih =>
      intro m0 hk hr o1 o2 o3 o4
      rw [lmD] at hr
      refine w_loc_1 (pk_m1 k) ?_
      refine w_iload_n dX7_layMatch_3 rfl ?_
      refine w_if_lt_f dX7_layMatch_4 ⟨147, by decide⟩ (nI_pos (by omega)) ?_
      refine w_iconst (v := 0) dX7_layMatch_7 (by decide) ?_
      refine w_istore_2 dX7_layMatch_8 (Nat.le_of_ble_eq_true rfl) rfl ?_
      refine w_heq (congrArg (fun z => mput h (tmo M z)) (iter_0 (fLm N k) m0)) (in2 k m0 (by omega) (fun o1 o2 o3 o4 => ?_) 64 0 rfl _ _ _)
      refine w_iinc_1 (v := (-1)) dX7_layMatch_141 (by decide) (Nat.le_of_ble_eq_true rfl) rfl ?_
      refine w_goto (tgt := 3) dX7_layMatch_144 (by decide) ?_
      exact ih _ (by omega) hr _ _ _ _
  refine w_bipush (v := 7) dX7_layMatch_0 (by decide) ?_
  refine w_istore_1 dX7_layMatch_2 (Nat.le_of_ble_eq_true rfl) rfl ?_
  exact loop 8 (mmo M) (by decide) rfl _ _ _ _

