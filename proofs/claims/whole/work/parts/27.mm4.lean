theorem iter_0 {α : Type} (f : Nat → α → α) (a : α) : a = iter f 0 a := rfl
theorem iter_s {α : Type} (f : Nat → α → α) (n : Nat) (a : α) : iter f (n + 1) a = f n (iter f n a) := rfl
def fYe (N : WS) (w t : Nat) (s : Nat) (f : Nat → Int32) : Nat → Int32 := upd f s (f s + (bif sLiv N (nI s) then (if mb (wmk N s &&& nI w) < nI t then 0 else 1) else 0))
def yeT (N : WS) (g w : Nat) (j : Nat) (f : Nat → Int32) : Nat → Int32 := if isLw N g w (j + 1) then iter (fYe N w (j + 1)) 8 f else f
def alT (N : WS) (g w : Nat) (j : Nat) (a : Int32) : Int32 := if isLw N g w (j + 1) then a + 1 else a
def yeW (N : WS) (g : Nat) (j : Nat) (f : Nat → Int32) : Nat → Int32 := iter (yeT N g (j + 1)) 8 f
def alW (N : WS) (g : Nat) (j : Nat) (a : Int32) : Int32 := iter (alT N g (j + 1)) 8 a
def yeA (N : WS) (g : Nat) (f : Nat → Int32) : Nat → Int32 := iter (yeW N g) 255 (zO 8 f)
def alA (N : WS) (g : Nat) : Int32 := iter (alW N g) 255 0
def FARc : Int32 := 1000000
def wor (y : Nat → Int32) (a : Int32) (s : Nat) : Int32 := if y s ≤ a - y s then a - y s else y s
def fNx (N : WS) (y : Nat → Int32) (a : Int32) (s : Nat) (p : Int32 × Int32) : Int32 × Int32 := if sLiv N (nI s) then (if p.2 ≤ wor y a s then p else (nI s, wor y a s)) else p
def nxP (N : WS) (g : Nat) (f : Nat → Int32) : Int32 × Int32 := if alA N g ≤ 0 then (-6, FARc) else iter (fNx N (yeA N g f) (alA N g)) 8 (-6, FARc)
def mNxt (N : WS) (g : Nat) (f : Nat → Int32) (w : Int32) : Int32 := if sIn w 0 1 then (if (nxP N g f).1 < 0 then (nxP N g f).1 else if w = 0 then (nxP N g f).1 else (nxP N g f).2) else -2
set_option maxRecDepth 100000 in
set_option maxHeartbeats 4000000 in
theorem pm_X7_next {l : Launch} {D : va_G} {h : PH} {M : MS} (hb : 38 < h.length) {N : WS} (hR : RB N (mbk M)) (hW : RW N M) (hN : NOk N) {g : Nat} (hg : g ≤ 8) (hs : msg M = nI g) (hG : SG N M g) {q : Int32} : PM l D YX7_next 4 [.ref 28, .int q] (mput h M) 0 0 (some (.int (mNxt N g (mye M) q))) (mput h (tye M (if sIn q 0 1 then yeA N g (mye M) else mye M))) := by
  refine pm_of2 (n0 := h.length) kb_YX7_next (mlen hb) [some (.ref 28), some (.int q), none, none, none, none, none] (fun _ => rfl) (fun _ => (Nat.le_of_ble_eq_true rfl)) ?_
  have hR' : ∀ f, RB N (mbk (tye M f)) := fun _ => hR
  have hs' : ∀ f, msg (tye M f) = nI g := fun _ => hs
  have hG' : ∀ f, SG N (tye M f) g := fun _ => hG
  cases hq : sIn q 0 1 with
  | false =>
    refine w_iload_n dX7_next_0 rfl ?_
    refine w_iconst (v := 0) dX7_next_1 (by decide) ?_
    refine w_iconst (v := 1) dX7_next_2 (by decide) ?_
    refine w_callSr dX7_next_3 k_X7_41 (pm_X7_in) rfl rfl (Nat.le_of_ble_eq_true rfl) (Nat.le_of_ble_eq_true rfl) (Nat.le_of_ble_eq_true rfl) (rc00 (mlen hb) (Nat.le_refl 0)) ?_
    refine w_zif_ne_f dX7_next_6 ⟨12, by decide⟩ hq ?_
    refine w_bipush (v := (-2)) dX7_next_9 (by decide) ?_
    exact w_iret dX7_next_11 rfl (by rw [mNxt, hq]; rfl) rfl (mlen hb) (Nat.le_refl 0)
  | true =>
    have last : ¬ alA N g ≤ 0 → ∀ (k s : Nat), s + k = 8 → ∀ o, Wp l D YX7_next (pRm 4 0 0) h.length (fun _ _ _ => True) (mE D h.length 0 0 (some (.int (mNxt N g (mye M) q))) (mput h (tye M (if true = true then yeA N g (mye M) else mye M)))) 146 [some (.ref 28), some (.int q), some (.int (alA N g)), some (.int (iter (fNx N (yeA N g (mye M)) (alA N g)) s (-6, FARc)).1), some (.int (iter (fNx N (yeA N g (mye M)) (alA N g)) s (-6, FARc)).2), some (.int (nI s)), o] [] (mput h (tye M (yeA N g (mye M)))) 0 := by
      intro h0 k
      induction k with
      | zero =>
        intro s hs2 o
        have hs2 : s = 8 := by omega
        subst hs2
        refine w_iload dX7_next_146 rfl ?_
        refine w_bipush (v := 8) dX7_next_148 (by decide) ?_
        refine w_icmp_ge_t (tgt := 242) dX7_next_150 (by decide) (Int32.le_refl _) ?_
        refine w_iload_n dX7_next_242 rfl ?_
        refine w_tif_lt (a := ?a243_1) (b := ?b243_1) (pJ := 256) (tgt := 250) dX7_next_243 (by decide) (fun c_243 k => ?hA243_1) (fun c_243 k => ?hB243_1) ?hk243_1
        case hA243_1 =>
          refine w_iload_n dX7_next_250 rfl ?_
          refine w_goto (tgt := 256) dX7_next_251 (by decide) ?_
          exact k
        case hB243_1 =>
          refine w_iload_n dX7_next_246 rfl ?_
          refine w_tif_ne (a := ?a247_2) (b := ?b247_2) (pJ := 256) (tgt := 254) dX7_next_247 (by decide) (fun c_247 k => ?hA247_2) (fun c_247 k => ?hB247_2) ?hk247_2
          case hA247_2 =>
            refine w_iload dX7_next_254 rfl ?_
            exact k
          case hB247_2 =>
            refine w_iload_n dX7_next_250 rfl ?_
            refine w_goto (tgt := 256) dX7_next_251 (by decide) ?_
            exact k
          exact k
        exact w_iret dX7_next_256 rfl (by rw [mNxt, if_pos hq, nxP, if_neg h0]) (by rw [if_pos rfl]) (mlen hb) (Nat.le_refl 0)
      | succ k ih =>
        intro s hs2 o
        have hB : (iter (fNx N (yeA N g (mye M)) (alA N g)) (s + 1) (-6, FARc)) = fNx N (yeA N g (mye M)) (alA N g) s (iter (fNx N (yeA N g (mye M)) (alA N g)) s (-6, FARc)) := rfl
        generalize (iter (fNx N (yeA N g (mye M)) (alA N g)) s (-6, FARc)) = p at hB ⊢
        refine w_iload dX7_next_146 rfl ?_
        refine w_bipush (v := 8) dX7_next_148 (by decide) ?_
        refine w_icmp_ge_f dX7_next_150 ⟨242, by decide⟩ (lp_g hs2 (by decide) rfl) ?_
        refine w_iload_n dX7_next_153 rfl ?_
        refine w_if_le_f dX7_next_154 ⟨242, by decide⟩ h0 ?_
        refine w_aload_n dX7_next_157 rfl ?_
        refine w_iload dX7_next_158 rfl ?_
        refine w_callVr dX7_next_160 k_X7_117 (pm_X7_lives hb (hR' _)) rfl rfl (mg0 hb) rfl (Nat.le_of_ble_eq_true rfl) (Nat.le_of_ble_eq_true rfl) (Nat.le_of_ble_eq_true rfl) (rc00 (mlen hb) (Nat.le_refl 0)) ?_
        refine w_zif_eq (tgt := 236) dX7_next_163 (by decide) (fun c_163 => ?_) (fun c_163 => ?_)
        · skip
          refine w_iinc_5 (v := 1) dX7_next_236 (by decide) (Nat.le_of_ble_eq_true rfl) rfl ?_
          refine w_goto (tgt := 146) dX7_next_239 (by decide) ?_
          refine w_loc_5 (nI_1 s) ?_
          first
          | (rw [fNx, if_neg (by rw [c_163]; decide)] at hB; have q5 := ih (s + 1) (by omega) o; rw [hB] at q5; exact q5)
          | (rw [fNx, if_pos c_163] at hB; have q5 := fun o => ih (s + 1) (by omega) o; rw [hB] at q5; refine w_loc_3 ?_ (w_loc_4 ?_ (q5 _)) <;> (split <;> rfl))
        · skip
          refine w_aload_n dX7_next_166 rfl ?_
          refine w_get dX7_next_167 f_X7_31 (mg0 hb) rfl ?_
          refine w_iload dX7_next_170 rfl ?_
          refine w_ialdN (k := s) dX7_next_172 (mg_ye hb) rfl (by omega) (kk := ?_)
          refine w_iload_n dX7_next_173 rfl ?_
          refine w_aload_n dX7_next_174 rfl ?_
          refine w_get dX7_next_175 f_X7_31 (mg0 hb) rfl ?_
          refine w_iload dX7_next_178 rfl ?_
          refine w_ialdN (k := s) dX7_next_180 (mg_ye hb) rfl (by omega) (kk := ?_)
          refine w_isub dX7_next_181 ?_
          refine w_ticmp_le (a := ?a182_6) (b := ?b182_6) (pJ := 204) (tgt := 195) dX7_next_182 (by decide) (fun c_182 k => ?hA182_6) (fun c_182 k => ?hB182_6) ?hk182_6
          case hA182_6 =>
            refine w_iload_n dX7_next_195 rfl ?_
            refine w_aload_n dX7_next_196 rfl ?_
            refine w_get dX7_next_197 f_X7_31 (mg0 hb) rfl ?_
            refine w_iload dX7_next_200 rfl ?_
            refine w_ialdN (k := s) dX7_next_202 (mg_ye hb) rfl (by omega) (kk := ?_)
            refine w_isub dX7_next_203 ?_
            exact k
          case hB182_6 =>
            refine w_aload_n dX7_next_185 rfl ?_
            refine w_get dX7_next_186 f_X7_31 (mg0 hb) rfl ?_
            refine w_iload dX7_next_189 rfl ?_
            refine w_ialdN (k := s) dX7_next_191 (mg_ye hb) rfl (by omega) (kk := ?_)
            refine w_goto (tgt := 204) dX7_next_192 (by decide) ?_
            exact k
          refine w_istore_6 dX7_next_204 (Nat.le_of_ble_eq_true rfl) rfl ?_
          change Wp _ _ _ _ _ _ _ _ [_, _, _, _, _, _, some (.int (wor (yeA N g (mye M)) (alA N g) s))] _ _ _
          refine w_iload dX7_next_206 rfl ?_
          refine w_iload dX7_next_208 rfl ?_
          refine w_ticmp_ge (a := ?a210_7) (b := ?b210_7) (pJ := 219) (tgt := 218) dX7_next_210 (by decide) (fun c_210 k => ?hA210_7) (fun c_210 k => ?hB210_7) ?hk210_7
          case hA210_7 =>
            refine w_iload_n dX7_next_218 rfl ?_
            exact k
          case hB210_7 =>
            refine w_iload dX7_next_213 rfl ?_
            refine w_goto (tgt := 219) dX7_next_215 (by decide) ?_
            exact k
          refine w_istore_3 dX7_next_219 (Nat.le_of_ble_eq_true rfl) rfl ?_
          refine w_iload dX7_next_220 rfl ?_
          refine w_iload dX7_next_222 rfl ?_
          refine w_ticmp_ge (a := ?a224_8) (b := ?b224_8) (pJ := 234) (tgt := 232) dX7_next_224 (by decide) (fun c_224 k => ?hA224_8) (fun c_224 k => ?hB224_8) ?hk224_8
          case hA224_8 =>
            refine w_iload dX7_next_232 rfl ?_
            exact k
          case hB224_8 =>
            refine w_iload dX7_next_227 rfl ?_
            refine w_goto (tgt := 234) dX7_next_229 (by decide) ?_
            exact k
          refine w_istore_4 dX7_next_234 (Nat.le_of_ble_eq_true rfl) rfl ?_
          refine w_iinc_5 (v := 1) dX7_next_236 (by decide) (Nat.le_of_ble_eq_true rfl) rfl ?_
          refine w_goto (tgt := 146) dX7_next_239 (by decide) ?_
          refine w_loc_5 (nI_1 s) ?_
          first
          | (rw [fNx, if_neg (by rw [c_163]; decide)] at hB; have q5 := ih (s + 1) (by omega) o; rw [hB] at q5; exact q5)
          | (rw [fNx, if_pos c_163] at hB; have q5 := fun o => ih (s + 1) (by omega) o; rw [hB] at q5; refine w_loc_3 ?_ (w_loc_4 ?_ (q5 _)) <;> (split <;> rfl))
    have in3 : ∀ (w u : Nat) (a : Int32) (f : Nat → Int32), (∀ o1 o2, Wp l D YX7_next (pRm 4 0 0) h.length (fun _ _ _ => True) (mE D h.length 0 0 (some (.int (mNxt N g (mye M) q))) (mput h (tye M (if true = true then yeA N g (mye M) else mye M)))) 124 [some (.ref 28), some (.int q), some (.int (a + 1)), some (.int (nI w)), some (.int (nI u)), o1, o2] [] (mput h (tye M (iter (fYe N w u) 8 f))) 0) → ∀ (k s : Nat), s + k = 8 → ∀ o, Wp l D YX7_next (pRm 4 0 0) h.length (fun _ _ _ => True) (mE D h.length 0 0 (some (.int (mNxt N g (mye M) q))) (mput h (tye M (if true = true then yeA N g (mye M) else mye M)))) 70 [some (.ref 28), some (.int q), some (.int (a + 1)), some (.int (nI w)), some (.int (nI u)), some (.int (nI s)), o] [] (mput h (tye M (iter (fYe N w u) s f))) 0 := by
      intro w u a f out k
      induction k with
      | zero =>
        intro s hs2 o
        have hs2 : s = 8 := by omega
        subst hs2
        refine w_iload dX7_next_70 rfl ?_
        refine w_bipush (v := 8) dX7_next_72 (by decide) ?_
        refine w_icmp_ge_t (tgt := 124) dX7_next_74 (by decide) (Int32.le_refl _) ?_
        exact out _ _
      | succ k ih =>
        intro s hs2 o
        refine w_iload dX7_next_70 rfl ?_
        refine w_bipush (v := 8) dX7_next_72 (by decide) ?_
        refine w_icmp_ge_f dX7_next_74 ⟨124, by decide⟩ (lp_g hs2 (by decide) rfl) ?_
        refine w_aload_n dX7_next_77 rfl ?_
        refine w_get dX7_next_78 f_X7_31 (mg0 hb) rfl ?_
        refine w_iload dX7_next_81 rfl ?_
        refine w_dup2 dX7_next_83 rfl rfl ?_
        refine w_ialdN (k := s) dX7_next_84 (mg_ye hb) rfl (by omega) (kk := ?_)
        refine w_aload_n dX7_next_85 rfl ?_
        refine w_iload dX7_next_86 rfl ?_
        refine w_callVr dX7_next_88 k_X7_117 (pm_X7_lives hb (hR' _)) rfl rfl (mg0 hb) rfl (Nat.le_of_ble_eq_true rfl) (Nat.le_of_ble_eq_true rfl) (Nat.le_of_ble_eq_true rfl) (rc00 (mlen hb) (Nat.le_refl 0)) ?_
        refine w_ztif_eq (a := ?a91_9) (b := ?b91_9) (pJ := 116) (tgt := 115) dX7_next_91 (by decide) (fun c_91 k => ?hA91_9) (fun c_91 k => ?hB91_9) ?hk91_9
        case hA91_9 =>
          refine w_iconst (v := 0) dX7_next_115 (by decide) ?_
          exact k
        case hB91_9 =>
          refine w_aload_n dX7_next_94 rfl ?_
          refine w_get dX7_next_95 f_X7_7 (mg0 hb) rfl ?_
          refine w_iload dX7_next_98 rfl ?_
          refine w_ialdN (k := s) dX7_next_100 (mg_bk hb) rfl (by omega) (kk := ?_)
          change Wp _ _ _ _ _ _ _ _ _ (.int (mbk M s) :: _) _ _
          rw [(hR.1 s (by omega)).1]
          refine w_iload_n dX7_next_101 rfl ?_
          refine w_iand dX7_next_102 ?_
          refine w_callSr dX7_next_103 k_X7_53 (pm_X7_bits) rfl rfl (Nat.le_of_ble_eq_true rfl) (Nat.le_of_ble_eq_true rfl) (Nat.le_of_ble_eq_true rfl) (rc00 (mlen hb) (Nat.le_refl 0)) ?_
          refine w_iload dX7_next_106 rfl ?_
          refine w_ticmp_lt (a := ?a108_10) (b := ?b108_10) (pJ := 116) (tgt := 115) dX7_next_108 (by decide) (fun c_108 k => ?hA108_10) (fun c_108 k => ?hB108_10) ?hk108_10
          case hA108_10 =>
            refine w_iconst (v := 0) dX7_next_115 (by decide) ?_
            exact k
          case hB108_10 =>
            refine w_iconst (v := 1) dX7_next_111 (by decide) ?_
            refine w_goto (tgt := 116) dX7_next_112 (by decide) ?_
            exact k
          exact k
        refine w_iadd dX7_next_116 ?_
        refine w_aMn_ye (k := s) dX7_next_117 hb rfl (by omega) ?_
        refine w_iinc_5 (v := 1) dX7_next_118 (by decide) (Nat.le_of_ble_eq_true rfl) rfl ?_
        refine w_goto (tgt := 70) dX7_next_121 (by decide) ?_
        exact w_loc_5 (nI_1 s) (ih (s + 1) (by omega) _)
    have in2 : ∀ (w : Nat) (a : Int32) (f : Nat → Int32), (∀ o1 o2 o3, Wp l D YX7_next (pRm 4 0 0) h.length (fun _ _ _ => True) (mE D h.length 0 0 (some (.int (mNxt N g (mye M) q))) (mput h (tye M (if true = true then yeA N g (mye M) else mye M)))) 130 [some (.ref 28), some (.int q), some (.int (iter (alT N g w) 8 a)), some (.int (nI w)), o1, o2, o3] [] (mput h (tye M (iter (yeT N g w) 8 f))) 0) → ∀ (k j : Nat), j + k = 8 → ∀ o1 o2, Wp l D YX7_next (pRm 4 0 0) h.length (fun _ _ _ => True) (mE D h.length 0 0 (some (.int (mNxt N g (mye M) q))) (mput h (tye M (if true = true then yeA N g (mye M) else mye M)))) 47 [some (.ref 28), some (.int q), some (.int (iter (alT N g w) j a)), some (.int (nI w)), some (.int (nI (j + 1))), o1, o2] [] (mput h (tye M (iter (yeT N g w) j f))) 0 := by
      intro w a f out k
      induction k with
      | zero =>
        intro j hj o1 o2
        have hj : j = 8 := by omega
        subst hj
        refine w_iload dX7_next_47 rfl ?_
        refine w_bipush (v := 9) dX7_next_49 (by decide) ?_
        refine w_icmp_ge_t (tgt := 130) dX7_next_51 (by decide) (Int32.le_refl _) ?_
        exact out _ _ _
      | succ k ih =>
        intro j hj o1 o2
        have eA : iter (alT N g w) (j + 1) a = alT N g w j (iter (alT N g w) j a) := rfl
        have eY : iter (yeT N g w) (j + 1) f = yeT N g w j (iter (yeT N g w) j f) := rfl
        rw [alT] at eA
        rw [yeT] at eY
        refine w_iload dX7_next_47 rfl ?_
        refine w_bipush (v := 9) dX7_next_49 (by decide) ?_
        refine w_icmp_ge_f dX7_next_51 ⟨130, by decide⟩ (lp_g (show (j + 1) + (k + 1) = 9 by omega) (by decide) rfl) ?_
        refine w_aload_n dX7_next_54 rfl ?_
        refine w_iload_n dX7_next_55 rfl ?_
        refine w_iload dX7_next_56 rfl ?_
        refine w_callVr dX7_next_58 k_X7_132 (pm_X7_isLaw hb hg (hs' _) (hG' _)) rfl rfl (mg0 hb) rfl (Nat.le_of_ble_eq_true rfl) (Nat.le_of_ble_eq_true rfl) (Nat.le_of_ble_eq_true rfl) (rc00 (mlen hb) (Nat.le_refl 0)) ?_
        refine w_zif_eq (tgt := 124) dX7_next_61 (by decide) (fun c_61 => ?_) (fun c_61 => ?_)
        · skip
          rw [if_neg (by rw [c_61]; decide)] at eA eY
          rw [← eA, ← eY]
          refine w_iinc_4 (v := 1) dX7_next_124 (by decide) (Nat.le_of_ble_eq_true rfl) rfl ?_
          refine w_goto (tgt := 47) dX7_next_127 (by decide) ?_
          exact w_loc_4 (nI_1 (j + 1)) (ih (j + 1) (by omega) _ _)
        · skip
          refine w_iinc_2 (v := 1) dX7_next_64 (by decide) (Nat.le_of_ble_eq_true rfl) rfl ?_
          refine w_iconst (v := 0) dX7_next_67 (by decide) ?_
          refine w_istore_5 dX7_next_68 (Nat.le_of_ble_eq_true rfl) rfl ?_
          rw [if_pos c_61] at eA eY
          refine w_heq (congrArg (fun z => mput h (tye M z)) (iter_0 (fYe N w (j + 1)) _)) ?_
          refine in3 w (j + 1) (iter (alT N g w) j a) (iter (yeT N g w) j f) (fun o1 o2 => ?_) 8 0 rfl _
          rw [← eA, ← eY]
          refine w_iinc_4 (v := 1) dX7_next_124 (by decide) (Nat.le_of_ble_eq_true rfl) rfl ?_
          refine w_goto (tgt := 47) dX7_next_127 (by decide) ?_
          exact w_loc_4 (nI_1 (j + 1)) (ih (j + 1) (by omega) _ _)
    have in1 : ∀ (k j : Nat), j + k = 255 → ∀ o1 o2 o3, Wp l D YX7_next (pRm 4 0 0) h.length (fun _ _ _ => True) (mE D h.length 0 0 (some (.int (mNxt N g (mye M) q))) (mput h (tye M (if true = true then yeA N g (mye M) else mye M)))) 37 [some (.ref 28), some (.int q), some (.int (iter (alW N g) j 0)), some (.int (nI (j + 1))), o1, o2, o3] [] (mput h (tye M (iter (yeW N g) j (zO 8 (mye M))))) 0 := by
      intro k
      induction k with
      | zero =>
        intro j hj o1 o2 o3
        have hj : j = 255 := by omega
        subst hj
        by_cases h0 : alA N g ≤ 0
        · skip
          refine w_iload_n dX7_next_37 rfl ?_
          refine w_sipush (v := 256) dX7_next_38 (by decide) ?_
          refine w_icmp_ge_t (tgt := 136) dX7_next_41 (by decide) (Int32.le_refl _) ?_
          refine w_bipush (v := (-6)) dX7_next_136 (by decide) ?_
          refine w_istore_3 dX7_next_138 (Nat.le_of_ble_eq_true rfl) rfl ?_
          refine w_ldc dX7_next_139 q_X7_135 ?_
          refine w_istore_4 dX7_next_141 (Nat.le_of_ble_eq_true rfl) rfl ?_
          refine w_iconst (v := 0) dX7_next_143 (by decide) ?_
          refine w_istore_5 dX7_next_144 (Nat.le_of_ble_eq_true rfl) rfl ?_
          refine w_iload dX7_next_146 rfl ?_
          refine w_bipush (v := 8) dX7_next_148 (by decide) ?_
          refine w_icmp_ge_f dX7_next_150 ⟨242, by decide⟩ (by decide) ?_
          refine w_iload_n dX7_next_153 rfl ?_
          refine w_if_le_t (tgt := 242) dX7_next_154 (by decide) h0 ?_
          refine w_iload_n dX7_next_242 rfl ?_
          refine w_tif_lt (a := ?a243_11) (b := ?b243_11) (pJ := 256) (tgt := 250) dX7_next_243 (by decide) (fun c_243 k => ?hA243_11) (fun c_243 k => ?hB243_11) ?hk243_11
          case hA243_11 =>
            refine w_iload_n dX7_next_250 rfl ?_
            refine w_goto (tgt := 256) dX7_next_251 (by decide) ?_
            exact k
          case hB243_11 =>
            refine w_iload_n dX7_next_246 rfl ?_
            refine w_tif_ne (a := ?a247_12) (b := ?b247_12) (pJ := 256) (tgt := 254) dX7_next_247 (by decide) (fun c_247 k => ?hA247_12) (fun c_247 k => ?hB247_12) ?hk247_12
            case hA247_12 =>
              refine w_iload dX7_next_254 rfl ?_
              exact k
            case hB247_12 =>
              refine w_iload_n dX7_next_250 rfl ?_
              refine w_goto (tgt := 256) dX7_next_251 (by decide) ?_
              exact k
            exact k
          exact w_iret dX7_next_256 rfl (by rw [mNxt, if_pos hq, nxP, if_pos h0]; rfl) (by rw [if_pos rfl, yeA]) (mlen hb) (Nat.le_refl 0)
        · skip
          refine w_iload_n dX7_next_37 rfl ?_
          refine w_sipush (v := 256) dX7_next_38 (by decide) ?_
          refine w_icmp_ge_t (tgt := 136) dX7_next_41 (by decide) (Int32.le_refl _) ?_
          refine w_bipush (v := (-6)) dX7_next_136 (by decide) ?_
          refine w_istore_3 dX7_next_138 (Nat.le_of_ble_eq_true rfl) rfl ?_
          refine w_ldc dX7_next_139 q_X7_135 ?_
          refine w_istore_4 dX7_next_141 (Nat.le_of_ble_eq_true rfl) rfl ?_
          refine w_iconst (v := 0) dX7_next_143 (by decide) ?_
          refine w_istore_5 dX7_next_144 (Nat.le_of_ble_eq_true rfl) rfl ?_
          exact last h0 8 0 rfl _
      | succ k ih =>
        intro j hj o1 o2 o3
        refine w_iload_n dX7_next_37 rfl ?_
        refine w_sipush (v := 256) dX7_next_38 (by decide) ?_
        refine w_icmp_ge_f dX7_next_41 ⟨136, by decide⟩ (lp_g (show (j + 1) + (k + 1) = 256 by omega) (by decide) rfl) ?_
        refine w_iconst (v := 1) dX7_next_44 (by decide) ?_
        refine w_istore_4 dX7_next_45 (Nat.le_of_ble_eq_true rfl) rfl ?_
        refine w_loc_2 (iter_0 (alT N g (j + 1)) _) (w_heq (congrArg (fun z => mput h (tye M z)) (iter_0 (yeT N g (j + 1)) _)) ?_)
        refine in2 (j + 1) (iter (alW N g) j 0) (iter (yeW N g) j (zO 8 (mye M))) (fun o1 o2 o3 => ?_) 8 0 rfl _ _
        have eA := iter_s (alW N g) j (0 : Int32)
        have eY := iter_s (yeW N g) j (zO 8 (mye M))
        rw [alW] at eA
        rw [yeW] at eY
        rw [← eA, ← eY]
        refine w_iinc_3 (v := 1) dX7_next_130 (by decide) (Nat.le_of_ble_eq_true rfl) rfl ?_
        refine w_goto (tgt := 37) dX7_next_133 (by decide) ?_
        exact w_loc_3 (nI_1 (j + 1)) (ih (j + 1) (by omega) _ _ _)
    have in0 : ∀ (k s : Nat), s + k = 8 → Wp l D YX7_next (pRm 4 0 0) h.length (fun _ _ _ => True) (mE D h.length 0 0 (some (.int (mNxt N g (mye M) q))) (mput h (tye M (if true = true then yeA N g (mye M) else mye M)))) 16 [some (.ref 28), some (.int q), some (.int 0), some (.int (nI s)), none, none, none] [] (mput h (tye M (zO s (mye M)))) 0 := by
      intro k
      induction k with
      | zero =>
        intro s hs2
        have hs2 : s = 8 := by omega
        subst hs2
        refine w_iload_n dX7_next_16 rfl ?_
        refine w_bipush (v := 8) dX7_next_17 (by decide) ?_
        refine w_icmp_ge_t (tgt := 35) dX7_next_19 (by decide) (Int32.le_refl _) ?_
        refine w_iconst (v := 1) dX7_next_35 (by decide) ?_
        refine w_istore_3 dX7_next_36 (Nat.le_of_ble_eq_true rfl) rfl ?_
        exact w_loc_2 (iter_0 (alW N g) _) (w_heq (congrArg (fun z => mput h (tye M z)) (iter_0 (yeW N g) _)) (in1 255 0 rfl _ _ _))
      | succ k ih =>
        intro s hs2
        refine w_iload_n dX7_next_16 rfl ?_
        refine w_bipush (v := 8) dX7_next_17 (by decide) ?_
        refine w_icmp_ge_f dX7_next_19 ⟨35, by decide⟩ (lp_g hs2 (by decide) rfl) ?_
        refine w_aload_n dX7_next_22 rfl ?_
        refine w_get dX7_next_23 f_X7_31 (mg0 hb) rfl ?_
        refine w_iload_n dX7_next_26 rfl ?_
        refine w_iconst (v := 0) dX7_next_27 (by decide) ?_
        refine w_aMn_ye (k := s) dX7_next_28 hb rfl (by omega) ?_
        refine w_iinc_3 (v := 1) dX7_next_29 (by decide) (Nat.le_of_ble_eq_true rfl) rfl ?_
        refine w_goto (tgt := 16) dX7_next_32 (by decide) ?_
        exact w_loc_3 (nI_1 s) (ih (s + 1) (by omega))
    refine w_iload_n dX7_next_0 rfl ?_
    refine w_iconst (v := 0) dX7_next_1 (by decide) ?_
    refine w_iconst (v := 1) dX7_next_2 (by decide) ?_
    refine w_callSr dX7_next_3 k_X7_41 (pm_X7_in) rfl rfl (Nat.le_of_ble_eq_true rfl) (Nat.le_of_ble_eq_true rfl) (Nat.le_of_ble_eq_true rfl) (rc00 (mlen hb) (Nat.le_refl 0)) ?_
    refine w_zif_ne_t (tgt := 12) dX7_next_6 (by decide) hq ?_
    refine w_iconst (v := 0) dX7_next_12 (by decide) ?_
    refine w_istore_2 dX7_next_13 (Nat.le_of_ble_eq_true rfl) rfl ?_
    refine w_iconst (v := 0) dX7_next_14 (by decide) ?_
    refine w_istore_3 dX7_next_15 (Nat.le_of_ble_eq_true rfl) rfl ?_
    exact in0 8 0 rfl

