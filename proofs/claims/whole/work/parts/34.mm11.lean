def bkX (v : Nat) : Nat := (75 * v + 74) % 65537
def bkA (N : WS) (v : Nat) (M : MS) : MS := if v % 8 = 0 then mEndM M else if v % 8 = 1 then mDieM M (v / 8 % 8) (v / 64 % 8) else if v % 8 < 4 then mLenM M (v / 8 % 8) (v / 64 % 8) (nI (1 + v / 512 % 9)) else mTryM N M (v / 8 % 8) (v / 64 % 6)
def bkGo (N : WS) : Nat → Nat → MS → MS
  | 0, _, M => M
  | k + 1, v, M => bkGo N k (bkX v) (bkA N (bkX v) M)
theorem keep_bkA (N : WS) (v : Nat) (M : MS) : gyKeep M (bkA N v M) := by
  unfold bkA
  split
  · exact keep_end M
  · split
    · exact keep_die M _ _
    · split
      · exact keep_len M _ _ _
      · exact keep_try N M _ _
theorem keep_bkGo (N : WS) : ∀ k v M, gyKeep M (bkGo N k v M)
  | 0, v, M => keep_rf M
  | k + 1, v, M => by rw [bkGo]; exact keep_tr (keep_bkA N (bkX v) M) (keep_bkGo N k _ _)
theorem keep_mNow (M : MS) : gyKeep M (mNow M) := ⟨rfl, rfl, rfl, rfl, rfl, rfl, rfl, rfl, rfl, rfl, rfl⟩
theorem bkX_lt (v : Nat) : bkX v < 65537 := Nat.mod_lt _ (by decide)
theorem bkx_eq {v : Nat} (hv : v < 65537) : 75 * nI v + 74 - (75 * nI v + 74) / 65537 * 65537 = nI (bkX v) := by
  rw [show (75 : Int32) * nI v + 74 = nI (75 * v + 74) from nadd (nmul rfl rfl) rfl]
  exact rem_nI rfl (by omega) (by decide) (by decide)
theorem bk_rem {v d : Nat} {y : Int32} (hy : y = nI d) (hv : v < 65537) (h0 : 0 < d) (hd : d < 1000) : nI v - nI v / y * y = nI (v % d) := rem_nI hy (by omega) h0 (by omega)
theorem bk_dr {v e d : Nat} {x y : Int32} (hx : x = nI e) (hy : y = nI d) (hv : v < 65537) (h0 : 0 < d) (hd : d < 1000) (h1 : 0 < e) (he : e < 1000) : nI v / x - nI v / x / y * y = nI (v / e % d) := by
  rw [hx, pk_div (by omega) h1 (by omega)]
  exact rem_nI hy (Nat.lt_of_le_of_lt (Nat.div_le_self v e) (by omega)) h0 (by omega)
def mPur (b : Nat → Int32) (n : Nat) : Int32 := iter (fun i a => a + (bif sBit (b 94) (nI i) then b (8 + i) else 0)) n 0
def mCoi (b : Nat → Int32) (n : Nat) : Int32 := iter (fun i a => a + b (88 + i)) n 0
theorem mPur_0 (b : Nat → Int32) : 0 = mPur b 0 := rfl
theorem mCoi_0 (b : Nat → Int32) : 0 = mCoi b 0 := rfl
theorem mPur_s (b : Nat → Int32) (i : Nat) : mPur b i + (bif sBit (b 94) (nI i) then b (8 + i) else 0) = mPur b (i + 1) := rfl
theorem mCoi_s (b : Nat → Int32) (i : Nat) : mCoi b i + b (88 + i) = mCoi b (i + 1) := rfl
theorem in_r {k a b : Nat} {x y : Int32} (hx : x = nI a) (hy : y = nI b) (h1 : a ≤ k) (h2 : k ≤ b) (hb : b < 2 ^ 31) : sIn (nI k) x y = true := by
  subst hx; subst hy
  simp only [sIn, Bool.and_eq_true, decide_eq_true_eq]
  exact ⟨nI_le h1 (by omega), nI_le h2 (by omega)⟩
set_option maxRecDepth 100000 in
set_option maxHeartbeats 1000000 in
theorem pm_X7_book_a {l : Launch} {D : va_G} {h : PH} {M : MS} (hb : 38 < h.length) {N : WS} (hW : RW N M) {v c : Nat} {w : Int32} (hv : v ≤ 9999) (hc : 1 ≤ c ∧ c ≤ 99) (hw : sIn w 0 2 = true) : PM l D YX7_book 6 [.ref 28, .int (nI v), .int (nI c), .int w] (mput h M) 0 0 (some (.int (if w = 0 then mb (mnw (bkGo N c v (mNow M)) 94) else if w = 1 then mPur (mnw (bkGo N c v (mNow M))) 8 else mCoi (mnw (bkGo N c v (mNow M))) 6))) (mput h (bkGo N c v (mNow M))) := by
  refine pm_of2 (n0 := h.length) kb_YX7_book (mlen hb) [some (.ref 28), some (.int (nI v)), some (.int (nI c)), some (.int w), none, none, none, none, none] (fun _ => rfl) (fun _ => (Nat.le_of_ble_eq_true rfl)) ?_
  have tail : ∀ Q : MS, Q = (bkGo N c v (mNow M)) → ∀ (x4 : Int32) (o5 o6 o7 o8 : Option Value), Wp l D YX7_book (pRm 6 0 0) h.length (fun _ _ _ => True) (mE D h.length 0 0 (some (.int (if w = 0 then mb (mnw (bkGo N c v (mNow M)) 94) else if w = 1 then mPur (mnw (bkGo N c v (mNow M))) 8 else mCoi (mnw (bkGo N c v (mNow M))) 6))) (mput h (bkGo N c v (mNow M)))) 170 [some (.ref 28), some (.int (nI v)), some (.int (nI c)), some (.int w), some (.int x4), o5, o6, o7, o8] [] (mput h Q) 0 := by
    intro Q hQ x4 o5 o6 o7 o8
    have fin : ∀ o6, Wp l D YX7_book (pRm 6 0 0) h.length (fun _ _ _ => True) (mE D h.length 0 0 (some (.int (if w = 0 then mb (mnw (bkGo N c v (mNow M)) 94) else if w = 1 then mPur (mnw (bkGo N c v (mNow M))) 8 else mCoi (mnw (bkGo N c v (mNow M))) 6))) (mput h (bkGo N c v (mNow M)))) 257 [some (.ref 28), some (.int (nI v)), some (.int (nI c)), some (.int w), some (.int x4), some (.int (mPur (mnw Q) 8)), some (.int (mCoi (mnw Q) 6)), o6, o8] [] (mput h Q) 0 := by
      intro o6
      refine w_iload_n dX7_book_257 rfl ?_
      refine w_if_ne (tgt := 274) dX7_book_258 (by decide) (fun c_258 => ?_) (fun c_258 => ?_)
      · skip
        refine w_iload_n dX7_book_274 rfl ?_
        refine w_iconst (v := 1) dX7_book_275 (by decide) ?_
        refine w_icmp_ne (tgt := 284) dX7_book_276 (by decide) (fun c_276 => ?_) (fun c_276 => ?_)
        · skip
          refine w_iload dX7_book_284 rfl ?_
          exact w_iret dX7_book_286 rfl (by rw [← hQ]; first | rw [if_pos c_258] | rw [if_neg c_258, if_pos c_276] | rw [if_neg c_258, if_neg c_276]) (by rw [hQ]) (mlen hb) (Nat.le_refl 0)
        · skip
          refine w_iload dX7_book_279 rfl ?_
          refine w_goto (tgt := 286) dX7_book_281 (by decide) ?_
          exact w_iret dX7_book_286 rfl (by rw [← hQ]; first | rw [if_pos c_258] | rw [if_neg c_258, if_pos c_276] | rw [if_neg c_258, if_neg c_276]) (by rw [hQ]) (mlen hb) (Nat.le_refl 0)
      · skip
        refine w_aload_n dX7_book_261 rfl ?_
        refine w_get dX7_book_262 f_X7_13 (mg0 hb) rfl ?_
        refine w_bipush (v := 94) dX7_book_265 (by decide) ?_
        refine w_ialdN (k := 94) dX7_book_267 (mg_nw hb) rfl (by omega) (kk := ?_)
        refine w_callSr dX7_book_268 k_X7_53 (pm_X7_bits) rfl rfl (Nat.le_of_ble_eq_true rfl) (Nat.le_of_ble_eq_true rfl) (Nat.le_of_ble_eq_true rfl) (rc00 (mlen hb) (Nat.le_refl 0)) ?_
        refine w_goto (tgt := 286) dX7_book_271 (by decide) ?_
        exact w_iret dX7_book_286 rfl (by rw [← hQ]; first | rw [if_pos c_258] | rw [if_neg c_258, if_pos c_276] | rw [if_neg c_258, if_neg c_276]) (by rw [hQ]) (mlen hb) (Nat.le_refl 0)
    have coins : ∀ (k i : Nat), i + k = 6 → Wp l D YX7_book (pRm 6 0 0) h.length (fun _ _ _ => True) (mE D h.length 0 0 (some (.int (if w = 0 then mb (mnw (bkGo N c v (mNow M)) 94) else if w = 1 then mPur (mnw (bkGo N c v (mNow M))) 8 else mCoi (mnw (bkGo N c v (mNow M))) 6))) (mput h (bkGo N c v (mNow M)))) 229 [some (.ref 28), some (.int (nI v)), some (.int (nI c)), some (.int w), some (.int x4), some (.int (mPur (mnw Q) 8)), some (.int (mCoi (mnw Q) i)), some (.int (nI i)), o8] [] (mput h Q) 0 := by
      intro k
      induction k with
      | zero =>
        intro i hi
        have hi : i = 6 := by omega
        subst hi
        refine w_iload dX7_book_229 rfl ?_
        refine w_bipush (v := 6) dX7_book_231 (by decide) ?_
        refine w_icmp_ge_t (tgt := 257) dX7_book_233 (by decide) (Int32.le_refl _) ?_
        exact fin _
      | succ k ih =>
        intro i hi
        refine w_iload dX7_book_229 rfl ?_
        refine w_bipush (v := 6) dX7_book_231 (by decide) ?_
        refine w_icmp_ge_f dX7_book_233 ⟨257, by decide⟩ (lp_g hi (by decide) rfl) ?_
        refine w_iload dX7_book_236 rfl ?_
        refine w_aload_n dX7_book_238 rfl ?_
        refine w_get dX7_book_239 f_X7_13 (mg0 hb) rfl ?_
        refine w_bipush (v := 88) dX7_book_242 (by decide) ?_
        refine w_iload dX7_book_244 rfl ?_
        refine w_iadd dX7_book_246 ?_
        refine w_ialdN (k := (88 + i)) dX7_book_247 (mg_nw hb) (nadd rfl rfl) (by omega) (kk := ?_)
        refine w_iadd dX7_book_248 ?_
        refine w_istore_6 dX7_book_249 (Nat.le_of_ble_eq_true rfl) rfl ?_
        refine w_iinc_7 (v := 1) dX7_book_251 (by decide) (Nat.le_of_ble_eq_true rfl) rfl ?_
        refine w_goto (tgt := 229) dX7_book_254 (by decide) ?_
        exact w_loc_7 (nI_1 i) (w_loc_6 (mCoi_s (mnw Q) i) (ih (i + 1) (by omega)))
    have purses : ∀ (k i : Nat), i + k = 8 → Wp l D YX7_book (pRm 6 0 0) h.length (fun _ _ _ => True) (mE D h.length 0 0 (some (.int (if w = 0 then mb (mnw (bkGo N c v (mNow M)) 94) else if w = 1 then mPur (mnw (bkGo N c v (mNow M))) 8 else mCoi (mnw (bkGo N c v (mNow M))) 6))) (mput h (bkGo N c v (mNow M)))) 179 [some (.ref 28), some (.int (nI v)), some (.int (nI c)), some (.int w), some (.int x4), some (.int (mPur (mnw Q) i)), some (.int 0), some (.int (nI i)), o8] [] (mput h Q) 0 := by
      intro k
      induction k with
      | zero =>
        intro i hi
        have hi : i = 8 := by omega
        subst hi
        refine w_iload dX7_book_179 rfl ?_
        refine w_bipush (v := 8) dX7_book_181 (by decide) ?_
        refine w_icmp_ge_t (tgt := 226) dX7_book_183 (by decide) (Int32.le_refl _) ?_
        refine w_iconst (v := 0) dX7_book_226 (by decide) ?_
        refine w_istore_7 dX7_book_227 (Nat.le_of_ble_eq_true rfl) rfl ?_
        exact w_loc_6 (mCoi_0 (mnw Q)) (coins 6 0 rfl)
      | succ k ih =>
        intro i hi
        refine w_iload dX7_book_179 rfl ?_
        refine w_bipush (v := 8) dX7_book_181 (by decide) ?_
        refine w_icmp_ge_f dX7_book_183 ⟨226, by decide⟩ (lp_g hi (by decide) rfl) ?_
        refine w_iload dX7_book_186 rfl ?_
        refine w_aload_n dX7_book_188 rfl ?_
        refine w_get dX7_book_189 f_X7_13 (mg0 hb) rfl ?_
        refine w_bipush (v := 94) dX7_book_192 (by decide) ?_
        refine w_ialdN (k := 94) dX7_book_194 (mg_nw hb) rfl (by omega) (kk := ?_)
        refine w_iload dX7_book_195 rfl ?_
        refine w_callSr dX7_book_197 k_X7_49 (pm_X7_has) rfl rfl (Nat.le_of_ble_eq_true rfl) (Nat.le_of_ble_eq_true rfl) (Nat.le_of_ble_eq_true rfl) (rc00 (mlen hb) (Nat.le_refl 0)) ?_
        refine w_ztif_eq (a := ?a200_1) (b := ?b200_1) (pJ := 217) (tgt := 216) dX7_book_200 (by decide) (fun c_200 k => ?hA200_1) (fun c_200 k => ?hB200_1) ?hk200_1
        case hA200_1 =>
          refine w_iconst (v := 0) dX7_book_216 (by decide) ?_
          exact k
        case hB200_1 =>
          refine w_aload_n dX7_book_203 rfl ?_
          refine w_get dX7_book_204 f_X7_13 (mg0 hb) rfl ?_
          refine w_bipush (v := 8) dX7_book_207 (by decide) ?_
          refine w_iload dX7_book_209 rfl ?_
          refine w_iadd dX7_book_211 ?_
          refine w_ialdN (k := (8 + i)) dX7_book_212 (mg_nw hb) (nadd rfl rfl) (by omega) (kk := ?_)
          refine w_goto (tgt := 217) dX7_book_213 (by decide) ?_
          exact k
        refine w_iadd dX7_book_217 ?_
        refine w_istore_5 dX7_book_218 (Nat.le_of_ble_eq_true rfl) rfl ?_
        refine w_iinc_7 (v := 1) dX7_book_220 (by decide) (Nat.le_of_ble_eq_true rfl) rfl ?_
        refine w_goto (tgt := 179) dX7_book_223 (by decide) ?_
        exact w_loc_7 (nI_1 i) (w_loc_5 (mPur_s (mnw Q) i) (ih (i + 1) (by omega)))
    refine w_iconst (v := 0) dX7_book_170 (by decide) ?_
    refine w_istore_5 dX7_book_171 (Nat.le_of_ble_eq_true rfl) rfl ?_
    refine w_iconst (v := 0) dX7_book_173 (by decide) ?_
    refine w_istore_6 dX7_book_174 (Nat.le_of_ble_eq_true rfl) rfl ?_
    refine w_iconst (v := 0) dX7_book_176 (by decide) ?_
    refine w_istore_7 dX7_book_177 (Nat.le_of_ble_eq_true rfl) rfl ?_
    exact w_loc_5 (mPur_0 (mnw Q)) (purses 8 0 rfl)
  have loop : ∀ (k i : Nat), i + k = c → ∀ (u : Nat) (P : MS), u < 65537 → gyKeep M P → bkGo N k u P = (bkGo N c v (mNow M)) → ∀ o6 o7 o8, Wp l D YX7_book (pRm 6 0 0) h.length (fun _ _ _ => True) (mE D h.length 0 0 (some (.int (if w = 0 then mb (mnw (bkGo N c v (mNow M)) 94) else if w = 1 then mPur (mnw (bkGo N c v (mNow M))) 8 else mCoi (mnw (bkGo N c v (mNow M))) 6))) (mput h (bkGo N c v (mNow M)))) 43 [some (.ref 28), some (.int (nI v)), some (.int (nI c)), some (.int w), some (.int (nI u)), some (.int (nI i)), o6, o7, o8] [] (mput h P) 0 := by
    intro k
    induction k with
    | zero =>
      intro i hi u P hu hP hr o6 o7 o8
      have hi : i = c := by omega
      subst hi
      rw [bkGo] at hr
      rw [hr]
      refine w_iload dX7_book_43 rfl ?_
      refine w_iload_n dX7_book_45 rfl ?_
      refine w_icmp_ge_t (tgt := 170) dX7_book_46 (by decide) (Int32.le_refl _) ?_
      exact tail _ rfl _ _ _ _ _
    | succ k ih =>
      intro i hi u P hu hP hr o6 o7 o8
      rw [bkGo] at hr
      have hx := bkX_lt u
      have ex := bkx_eq hu
      generalize bkX u = x at hr hx ex
      have hWP : RW N P := fun j hj => by rw [hP.2.1, hP.2.2.1]; exact hW j hj
      have hK := keep_tr hP (keep_bkA N x P)
      by_cases q0 : x % 8 = 0
      · rw [bkA, if_pos q0] at hr hK
        refine w_iload dX7_book_43 rfl ?_
        refine w_iload_n dX7_book_45 rfl ?_
        refine w_icmp_ge_f dX7_book_46 ⟨170, by decide⟩ (nI_ge (by omega) (by omega)) ?_
        refine w_bipush (v := 75) dX7_book_49 (by decide) ?_
        refine w_iload dX7_book_51 rfl ?_
        refine w_imul dX7_book_53 ?_
        refine w_bipush (v := 74) dX7_book_54 (by decide) ?_
        refine w_iadd dX7_book_56 ?_
        refine w_ldc dX7_book_57 q_X7_146 ?_
        refine w_irem dX7_book_59 (by decide) ?_
        refine w_top (y := nI x) (ex) ?_
        refine w_istore_4 dX7_book_60 (Nat.le_of_ble_eq_true rfl) rfl ?_
        refine w_iload dX7_book_62 rfl ?_
        refine w_bipush (v := 8) dX7_book_64 (by decide) ?_
        refine w_irem dX7_book_66 (by decide) ?_
        refine w_top (y := nI (x % 8)) (bk_rem rfl hx (by decide) (by decide)) ?_
        refine w_istore_6 dX7_book_67 (Nat.le_of_ble_eq_true rfl) rfl ?_
        refine w_iload dX7_book_69 rfl ?_
        refine w_bipush (v := 8) dX7_book_71 (by decide) ?_
        refine w_idiv dX7_book_73 (by decide) ?_
        refine w_bipush (v := 8) dX7_book_74 (by decide) ?_
        refine w_irem dX7_book_76 (by decide) ?_
        refine w_top (y := nI (x / 8 % 8)) (bk_dr rfl rfl hx (by decide) (by decide) (by decide) (by decide)) ?_
        refine w_istore_7 dX7_book_77 (Nat.le_of_ble_eq_true rfl) rfl ?_
        refine w_iload dX7_book_79 rfl ?_
        refine w_bipush (v := 64) dX7_book_81 (by decide) ?_
        refine w_idiv dX7_book_83 (by decide) ?_
        refine w_bipush (v := 8) dX7_book_84 (by decide) ?_
        refine w_irem dX7_book_86 (by decide) ?_
        refine w_top (y := nI (x / 64 % 8)) (bk_dr rfl rfl hx (by decide) (by decide) (by decide) (by decide)) ?_
        refine w_istore_8 dX7_book_87 (Nat.le_of_ble_eq_true rfl) rfl ?_
        refine w_iload dX7_book_89 rfl ?_
        refine w_if_ne_f dX7_book_91 ⟨102, by decide⟩ (by rw [q0]; rfl) ?_
        refine w_aload_n dX7_book_94 rfl ?_
        refine w_callVr dX7_book_95 k_X7_94 (pm_X7_endYear (M := P) hb) rfl rfl (mg0 hb) rfl (Nat.le_of_ble_eq_true rfl) (Nat.le_of_ble_eq_true rfl) (Nat.le_of_ble_eq_true rfl) (rc00 (mlen hb) (Nat.le_refl 0)) ?_
        refine w_pop dX7_book_98 rfl ?_
        refine w_goto (tgt := 164) dX7_book_99 (by decide) ?_
        refine w_iinc_5 (v := 1) dX7_book_164 (by decide) (Nat.le_of_ble_eq_true rfl) rfl ?_
        refine w_goto (tgt := 43) dX7_book_167 (by decide) ?_
        exact w_loc_5 (nI_1 i) (ih (i + 1) (by omega) x _ hx hK hr _ _ _)
      by_cases q1 : x % 8 = 1
      · rw [bkA, if_neg q0, if_pos q1] at hr hK
        refine w_iload dX7_book_43 rfl ?_
        refine w_iload_n dX7_book_45 rfl ?_
        refine w_icmp_ge_f dX7_book_46 ⟨170, by decide⟩ (nI_ge (by omega) (by omega)) ?_
        refine w_bipush (v := 75) dX7_book_49 (by decide) ?_
        refine w_iload dX7_book_51 rfl ?_
        refine w_imul dX7_book_53 ?_
        refine w_bipush (v := 74) dX7_book_54 (by decide) ?_
        refine w_iadd dX7_book_56 ?_
        refine w_ldc dX7_book_57 q_X7_146 ?_
        refine w_irem dX7_book_59 (by decide) ?_
        refine w_top (y := nI x) (ex) ?_
        refine w_istore_4 dX7_book_60 (Nat.le_of_ble_eq_true rfl) rfl ?_
        refine w_iload dX7_book_62 rfl ?_
        refine w_bipush (v := 8) dX7_book_64 (by decide) ?_
        refine w_irem dX7_book_66 (by decide) ?_
        refine w_top (y := nI (x % 8)) (bk_rem rfl hx (by decide) (by decide)) ?_
        refine w_istore_6 dX7_book_67 (Nat.le_of_ble_eq_true rfl) rfl ?_
        refine w_iload dX7_book_69 rfl ?_
        refine w_bipush (v := 8) dX7_book_71 (by decide) ?_
        refine w_idiv dX7_book_73 (by decide) ?_
        refine w_bipush (v := 8) dX7_book_74 (by decide) ?_
        refine w_irem dX7_book_76 (by decide) ?_
        refine w_top (y := nI (x / 8 % 8)) (bk_dr rfl rfl hx (by decide) (by decide) (by decide) (by decide)) ?_
        refine w_istore_7 dX7_book_77 (Nat.le_of_ble_eq_true rfl) rfl ?_
        refine w_iload dX7_book_79 rfl ?_
        refine w_bipush (v := 64) dX7_book_81 (by decide) ?_
        refine w_idiv dX7_book_83 (by decide) ?_
        refine w_bipush (v := 8) dX7_book_84 (by decide) ?_
        refine w_irem dX7_book_86 (by decide) ?_
        refine w_top (y := nI (x / 64 % 8)) (bk_dr rfl rfl hx (by decide) (by decide) (by decide) (by decide)) ?_
        refine w_istore_8 dX7_book_87 (Nat.le_of_ble_eq_true rfl) rfl ?_
        refine w_iload dX7_book_89 rfl ?_
        refine w_if_ne_t (tgt := 102) dX7_book_91 (by decide) (ne_nI (n := 0) rfl (by omega) (by decide) q0) ?_
        refine w_iload dX7_book_102 rfl ?_
        refine w_iconst (v := 1) dX7_book_104 (by decide) ?_
        refine w_icmp_ne_f dX7_book_105 ⟨120, by decide⟩ (by rw [q1]; rfl) ?_
        refine w_aload_n dX7_book_108 rfl ?_
        refine w_iload dX7_book_109 rfl ?_
        refine w_iload dX7_book_111 rfl ?_
        refine w_callVr dX7_book_113 k_X7_100 (pm_X7_dies (M := P) hb (Nat.mod_lt _ (by decide)) (Nat.mod_lt _ (by decide))) rfl rfl (mg0 hb) rfl (Nat.le_of_ble_eq_true rfl) (Nat.le_of_ble_eq_true rfl) (Nat.le_of_ble_eq_true rfl) (rc00 (mlen hb) (Nat.le_refl 0)) ?_
        refine w_pop dX7_book_116 rfl ?_
        refine w_goto (tgt := 164) dX7_book_117 (by decide) ?_
        refine w_iinc_5 (v := 1) dX7_book_164 (by decide) (Nat.le_of_ble_eq_true rfl) rfl ?_
        refine w_goto (tgt := 43) dX7_book_167 (by decide) ?_
        exact w_loc_5 (nI_1 i) (ih (i + 1) (by omega) x _ hx hK hr _ _ _)
      by_cases q4 : x % 8 < 4
      · rw [bkA, if_neg q0, if_neg q1, if_pos q4] at hr hK
        refine w_iload dX7_book_43 rfl ?_
        refine w_iload_n dX7_book_45 rfl ?_
        refine w_icmp_ge_f dX7_book_46 ⟨170, by decide⟩ (nI_ge (by omega) (by omega)) ?_
        refine w_bipush (v := 75) dX7_book_49 (by decide) ?_
        refine w_iload dX7_book_51 rfl ?_
        refine w_imul dX7_book_53 ?_
        refine w_bipush (v := 74) dX7_book_54 (by decide) ?_
        refine w_iadd dX7_book_56 ?_
        refine w_ldc dX7_book_57 q_X7_146 ?_
        refine w_irem dX7_book_59 (by decide) ?_
        refine w_top (y := nI x) (ex) ?_
        refine w_istore_4 dX7_book_60 (Nat.le_of_ble_eq_true rfl) rfl ?_
        refine w_iload dX7_book_62 rfl ?_
        refine w_bipush (v := 8) dX7_book_64 (by decide) ?_
        refine w_irem dX7_book_66 (by decide) ?_
        refine w_top (y := nI (x % 8)) (bk_rem rfl hx (by decide) (by decide)) ?_
        refine w_istore_6 dX7_book_67 (Nat.le_of_ble_eq_true rfl) rfl ?_
        refine w_iload dX7_book_69 rfl ?_
        refine w_bipush (v := 8) dX7_book_71 (by decide) ?_
        refine w_idiv dX7_book_73 (by decide) ?_
        refine w_bipush (v := 8) dX7_book_74 (by decide) ?_
        refine w_irem dX7_book_76 (by decide) ?_
        refine w_top (y := nI (x / 8 % 8)) (bk_dr rfl rfl hx (by decide) (by decide) (by decide) (by decide)) ?_
        refine w_istore_7 dX7_book_77 (Nat.le_of_ble_eq_true rfl) rfl ?_
        refine w_iload dX7_book_79 rfl ?_
        refine w_bipush (v := 64) dX7_book_81 (by decide) ?_
        refine w_idiv dX7_book_83 (by decide) ?_
        refine w_bipush (v := 8) dX7_book_84 (by decide) ?_
        refine w_irem dX7_book_86 (by decide) ?_
        refine w_top (y := nI (x / 64 % 8)) (bk_dr rfl rfl hx (by decide) (by decide) (by decide) (by decide)) ?_
        refine w_istore_8 dX7_book_87 (Nat.le_of_ble_eq_true rfl) rfl ?_
        refine w_iload dX7_book_89 rfl ?_
        refine w_if_ne_t (tgt := 102) dX7_book_91 (by decide) (ne_nI (n := 0) rfl (by omega) (by decide) q0) ?_
        refine w_iload dX7_book_102 rfl ?_
        refine w_iconst (v := 1) dX7_book_104 (by decide) ?_
        refine w_icmp_ne_t (tgt := 120) dX7_book_105 (by decide) (ne_nI (n := 1) rfl (by omega) (by decide) q1) ?_
        refine w_iload dX7_book_120 rfl ?_
        refine w_iconst (v := 4) dX7_book_122 (by decide) ?_
        refine w_icmp_ge_f dX7_book_123 ⟨149, by decide⟩ (nI_ge (b := 4) q4 (by decide)) ?_
        refine w_aload_n dX7_book_126 rfl ?_
        refine w_iload dX7_book_127 rfl ?_
        refine w_iconst (v := 1) dX7_book_129 (by decide) ?_
        refine w_iload dX7_book_130 rfl ?_
        refine w_sipush (v := 512) dX7_book_132 (by decide) ?_
        refine w_idiv dX7_book_135 (by decide) ?_
        refine w_bipush (v := 9) dX7_book_136 (by decide) ?_
        refine w_irem dX7_book_138 (by decide) ?_
        refine w_top (y := nI (x / 512 % 9)) (bk_dr rfl rfl hx (by decide) (by decide) (by decide) (by decide)) ?_
        refine w_iadd dX7_book_139 ?_
        refine w_top (y := nI (1 + x / 512 % 9)) (nadd rfl rfl) ?_
        refine w_iload dX7_book_140 rfl ?_
        refine w_callVr dX7_book_142 k_X7_104 (pm_X7_lends (M := P) hb (Nat.mod_lt _ (by decide)) (Nat.mod_lt _ (by decide))) rfl rfl (mg0 hb) rfl (Nat.le_of_ble_eq_true rfl) (Nat.le_of_ble_eq_true rfl) (Nat.le_of_ble_eq_true rfl) (rc00 (mlen hb) (Nat.le_refl 0)) ?_
        refine w_pop dX7_book_145 rfl ?_
        refine w_goto (tgt := 164) dX7_book_146 (by decide) ?_
        refine w_iinc_5 (v := 1) dX7_book_164 (by decide) (Nat.le_of_ble_eq_true rfl) rfl ?_
        refine w_goto (tgt := 43) dX7_book_167 (by decide) ?_
        exact w_loc_5 (nI_1 i) (ih (i + 1) (by omega) x _ hx hK hr _ _ _)
      rw [bkA, if_neg q0, if_neg q1, if_neg q4] at hr hK
      refine w_iload dX7_book_43 rfl ?_
      refine w_iload_n dX7_book_45 rfl ?_
      refine w_icmp_ge_f dX7_book_46 ⟨170, by decide⟩ (nI_ge (by omega) (by omega)) ?_
      refine w_bipush (v := 75) dX7_book_49 (by decide) ?_
      refine w_iload dX7_book_51 rfl ?_
      refine w_imul dX7_book_53 ?_
      refine w_bipush (v := 74) dX7_book_54 (by decide) ?_
      refine w_iadd dX7_book_56 ?_
      refine w_ldc dX7_book_57 q_X7_146 ?_
      refine w_irem dX7_book_59 (by decide) ?_
      refine w_top (y := nI x) (ex) ?_
      refine w_istore_4 dX7_book_60 (Nat.le_of_ble_eq_true rfl) rfl ?_
      refine w_iload dX7_book_62 rfl ?_
      refine w_bipush (v := 8) dX7_book_64 (by decide) ?_
      refine w_irem dX7_book_66 (by decide) ?_
      refine w_top (y := nI (x % 8)) (bk_rem rfl hx (by decide) (by decide)) ?_
      refine w_istore_6 dX7_book_67 (Nat.le_of_ble_eq_true rfl) rfl ?_
      refine w_iload dX7_book_69 rfl ?_
      refine w_bipush (v := 8) dX7_book_71 (by decide) ?_
      refine w_idiv dX7_book_73 (by decide) ?_
      refine w_bipush (v := 8) dX7_book_74 (by decide) ?_
      refine w_irem dX7_book_76 (by decide) ?_
      refine w_top (y := nI (x / 8 % 8)) (bk_dr rfl rfl hx (by decide) (by decide) (by decide) (by decide)) ?_
      refine w_istore_7 dX7_book_77 (Nat.le_of_ble_eq_true rfl) rfl ?_
      refine w_iload dX7_book_79 rfl ?_
      refine w_bipush (v := 64) dX7_book_81 (by decide) ?_
      refine w_idiv dX7_book_83 (by decide) ?_
      refine w_bipush (v := 8) dX7_book_84 (by decide) ?_
      refine w_irem dX7_book_86 (by decide) ?_
      refine w_top (y := nI (x / 64 % 8)) (bk_dr rfl rfl hx (by decide) (by decide) (by decide) (by decide)) ?_
      refine w_istore_8 dX7_book_87 (Nat.le_of_ble_eq_true rfl) rfl ?_
      refine w_iload dX7_book_89 rfl ?_
      refine w_if_ne_t (tgt := 102) dX7_book_91 (by decide) (ne_nI (n := 0) rfl (by omega) (by decide) q0) ?_
      refine w_iload dX7_book_102 rfl ?_
      refine w_iconst (v := 1) dX7_book_104 (by decide) ?_
      refine w_icmp_ne_t (tgt := 120) dX7_book_105 (by decide) (ne_nI (n := 1) rfl (by omega) (by decide) q1) ?_
      refine w_iload dX7_book_120 rfl ?_
      refine w_iconst (v := 4) dX7_book_122 (by decide) ?_
      refine w_icmp_ge_t (tgt := 149) dX7_book_123 (by decide) (nI_le (a := 4) (by omega) (by omega)) ?_
      refine w_aload_n dX7_book_149 rfl ?_
      refine w_iload dX7_book_150 rfl ?_
      refine w_iload dX7_book_152 rfl ?_
      refine w_bipush (v := 64) dX7_book_154 (by decide) ?_
      refine w_idiv dX7_book_156 (by decide) ?_
      refine w_bipush (v := 6) dX7_book_157 (by decide) ?_
      refine w_irem dX7_book_159 (by decide) ?_
      refine w_top (y := nI (x / 64 % 6)) (bk_dr rfl rfl hx (by decide) (by decide) (by decide) (by decide)) ?_
      refine w_callVr dX7_book_160 k_X7_108 (pm_X7_tries (M := P) hb hWP (Nat.mod_lt _ (by decide)) (Nat.mod_lt _ (by decide))) rfl rfl (mg0 hb) rfl (Nat.le_of_ble_eq_true rfl) (Nat.le_of_ble_eq_true rfl) (Nat.le_of_ble_eq_true rfl) (rc00 (mlen hb) (Nat.le_refl 0)) ?_
      refine w_pop dX7_book_163 rfl ?_
      refine w_iinc_5 (v := 1) dX7_book_164 (by decide) (Nat.le_of_ble_eq_true rfl) rfl ?_
      refine w_goto (tgt := 43) dX7_book_167 (by decide) ?_
      exact w_loc_5 (nI_1 i) (ih (i + 1) (by omega) x _ hx hK hr _ _ _)
  refine w_iload_n dX7_book_0 rfl ?_
  refine w_iconst (v := 0) dX7_book_1 (by decide) ?_
  refine w_sipush (v := 9999) dX7_book_2 (by decide) ?_
  refine w_callSr dX7_book_5 k_X7_41 (pm_X7_in) rfl rfl (Nat.le_of_ble_eq_true rfl) (Nat.le_of_ble_eq_true rfl) (Nat.le_of_ble_eq_true rfl) (rc00 (mlen hb) (Nat.le_refl 0)) ?_
  refine w_zif_eq_f dX7_book_8 ⟨30, by decide⟩ (in_r (a := 0) (b := 9999) rfl rfl (by omega) (by omega) (by decide)) ?_
  refine w_iload_n dX7_book_11 rfl ?_
  refine w_iconst (v := 1) dX7_book_12 (by decide) ?_
  refine w_bipush (v := 99) dX7_book_13 (by decide) ?_
  refine w_callSr dX7_book_15 k_X7_41 (pm_X7_in) rfl rfl (Nat.le_of_ble_eq_true rfl) (Nat.le_of_ble_eq_true rfl) (Nat.le_of_ble_eq_true rfl) (rc00 (mlen hb) (Nat.le_refl 0)) ?_
  refine w_zif_eq_f dX7_book_18 ⟨30, by decide⟩ (in_r (a := 1) (b := 99) rfl rfl (by omega) (by omega) (by decide)) ?_
  refine w_iload_n dX7_book_21 rfl ?_
  refine w_iconst (v := 0) dX7_book_22 (by decide) ?_
  refine w_iconst (v := 2) dX7_book_23 (by decide) ?_
  refine w_callSr dX7_book_24 k_X7_41 (pm_X7_in) rfl rfl (Nat.le_of_ble_eq_true rfl) (Nat.le_of_ble_eq_true rfl) (Nat.le_of_ble_eq_true rfl) (rc00 (mlen hb) (Nat.le_refl 0)) ?_
  refine w_zif_ne_t (tgt := 33) dX7_book_27 (by decide) hw ?_
  refine w_aload_n dX7_book_33 rfl ?_
  refine w_callVv dX7_book_34 k_X7_88 (pm_X7_asNow hb) rfl rfl (mg0 hb) rfl (Nat.le_of_ble_eq_true rfl) (Nat.le_of_ble_eq_true rfl) (Nat.le_of_ble_eq_true rfl) (rc00 (mlen hb) (Nat.le_refl 0)) ?_
  refine w_iload_n dX7_book_37 rfl ?_
  refine w_istore_4 dX7_book_38 (Nat.le_of_ble_eq_true rfl) rfl ?_
  refine w_iconst (v := 0) dX7_book_40 (by decide) ?_
  refine w_istore_5 dX7_book_41 (Nat.le_of_ble_eq_true rfl) rfl ?_
  exact loop c 0 (by omega) v _ (by omega) (keep_mNow M) rfl _ _ _

set_option maxRecDepth 100000 in
set_option maxHeartbeats 1000000 in
theorem pm_X7_book_r {l : Launch} {D : va_G} {h : PH} {M : MS} (hb : 38 < h.length) {a b w : Int32} (hn : (sIn a 0 9999 && sIn b 1 99 && sIn w 0 2) = false) : PM l D YX7_book 6 [.ref 28, .int a, .int b, .int w] (mput h M) 0 0 (some (.int (-2))) (mput h M) := by
  refine pm_of2 (n0 := h.length) kb_YX7_book (mlen hb) [some (.ref 28), some (.int a), some (.int b), some (.int w), none, none, none, none, none] (fun _ => rfl) (fun _ => (Nat.le_of_ble_eq_true rfl)) ?_
  refine w_iload_n dX7_book_0 rfl ?_
  refine w_iconst (v := 0) dX7_book_1 (by decide) ?_
  refine w_sipush (v := 9999) dX7_book_2 (by decide) ?_
  refine w_callSr dX7_book_5 k_X7_41 (pm_X7_in) rfl rfl (Nat.le_of_ble_eq_true rfl) (Nat.le_of_ble_eq_true rfl) (Nat.le_of_ble_eq_true rfl) (rc00 (mlen hb) (Nat.le_refl 0)) ?_
  refine w_zif_eq (tgt := 30) dX7_book_8 (by decide) (fun c_8 => ?_) (fun c_8 => ?_)
  · skip
    refine w_bipush (v := (-2)) dX7_book_30 (by decide) ?_
    exact w_iret dX7_book_32 rfl rfl rfl (mlen hb) (Nat.le_refl 0)
  · skip
    refine w_iload_n dX7_book_11 rfl ?_
    refine w_iconst (v := 1) dX7_book_12 (by decide) ?_
    refine w_bipush (v := 99) dX7_book_13 (by decide) ?_
    refine w_callSr dX7_book_15 k_X7_41 (pm_X7_in) rfl rfl (Nat.le_of_ble_eq_true rfl) (Nat.le_of_ble_eq_true rfl) (Nat.le_of_ble_eq_true rfl) (rc00 (mlen hb) (Nat.le_refl 0)) ?_
    refine w_zif_eq (tgt := 30) dX7_book_18 (by decide) (fun c_18 => ?_) (fun c_18 => ?_)
    · skip
      refine w_bipush (v := (-2)) dX7_book_30 (by decide) ?_
      exact w_iret dX7_book_32 rfl rfl rfl (mlen hb) (Nat.le_refl 0)
    · skip
      refine w_iload_n dX7_book_21 rfl ?_
      refine w_iconst (v := 0) dX7_book_22 (by decide) ?_
      refine w_iconst (v := 2) dX7_book_23 (by decide) ?_
      refine w_callSr dX7_book_24 k_X7_41 (pm_X7_in) rfl rfl (Nat.le_of_ble_eq_true rfl) (Nat.le_of_ble_eq_true rfl) (Nat.le_of_ble_eq_true rfl) (rc00 (mlen hb) (Nat.le_refl 0)) ?_
      refine w_zif_ne (tgt := 33) dX7_book_27 (by decide) (fun c_27 => ?_) (fun c_27 => ?_)
      · skip
        simp only [*, Bool.and_self] at hn
        cases hn
      · skip
        refine w_bipush (v := (-2)) dX7_book_30 (by decide) ?_
        exact w_iret dX7_book_32 rfl rfl rfl (mlen hb) (Nat.le_refl 0)

