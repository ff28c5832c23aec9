theorem mf_s {pd : Nat → Int32} {c k : Nat} {a : Int32} (hk : k < c) : mfgo pd (c - k) k a = if mOk a (pd k) then mfgo pd (c - (k + 1)) (k + 1) (mNx a (pd k)) else nI k := by
  rw [show c - k = (c - (k + 1)) + 1 by omega, mfgo]
theorem mf_e {pd : Nat → Int32} {c k : Nat} {a : Int32} (hk : c ≤ k) : mfgo pd (c - k) k a = if a = 0 then -6 else nI k := by
  rw [show c - k = 0 by omega, mfgo]
theorem nI_n6 {k : Nat} (hk : k < 2 ^ 31) : ¬ nI k = -6 := fun z => absurd (show nI k < 0 by rw [z]; decide) (nI_pos hk)
theorem mf_go {pd : Nat → Int32} {c k : Nat} {a : Int32} (hc : c < 2 ^ 31) (hk : k < c) (h : mfgo pd (c - k) k a = -6) : mOk a (pd k) = true ∧ mfgo pd (c - (k + 1)) (k + 1) (mNx a (pd k)) = -6 := by
  rw [mf_s hk] at h
  by_cases q : mOk a (pd k) = true
  · rw [if_pos q] at h; exact ⟨q, h⟩
  · rw [if_neg q] at h; exact absurd h (nI_n6 (by omega))
theorem mf_lt {pd : Nat → Int32} {c k : Nat} {a : Int32} (hc : k < 2 ^ 31) (ha : ¬ a = 0) (h : mfgo pd (c - k) k a = -6) : k < c := by
  rcases Nat.lt_or_ge k c with q | q
  · exact q
  · rw [mf_e q, if_neg ha] at h; exact absurd h (nI_n6 hc)
theorem wf_step {pd : Nat → Int32} {c k : Nat} (hc : c ≤ 60) (hk : k < c) (h : mfgo pd (c - k) k 0 = -6) :
    (pd k = 46 ∧ mfgo pd (c - (k + 1)) (k + 1) 0 = -6) ∨
    (¬ pd k = 46 ∧ sIn (pd k) 65 72 = true ∧ k + 1 < c ∧
      ((pd (k + 1) = 62 ∧ k + 2 < c ∧ sIn (pd (k + 2)) 65 72 = true ∧ mfgo pd (c - (k + 3)) (k + 3) 0 = -6) ∨
       (¬ pd (k + 1) = 62 ∧ pd (k + 1) = 61 ∧ k + 3 < c ∧ sIn (pd (k + 2)) 49 57 = true ∧ sIn (pd (k + 3)) 65 72 = true ∧ mfgo pd (c - (k + 4)) (k + 4) 0 = -6) ∨
       (¬ pd (k + 1) = 62 ∧ ¬ pd (k + 1) = 61 ∧ sIn (pd (k + 1)) 48 53 = true ∧ mfgo pd (c - (k + 2)) (k + 2) 0 = -6))) := by
  obtain ⟨o1, h1⟩ := mf_go (by omega) hk h
  by_cases q1 : pd k = 46
  · left
    rw [mNx, if_pos rfl, if_pos q1] at h1
    exact ⟨q1, h1⟩
  · right
    rw [mNx, if_pos rfl, if_neg q1] at h1
    have o1' : sIn (pd k) 65 72 = true := by
      rw [mOk, if_pos rfl, decide_eq_false q1, Bool.or_false] at o1; exact o1
    have k1 := mf_lt (by omega) (by decide) h1
    obtain ⟨o2, h2⟩ := mf_go (by omega) k1 h1
    rw [mOk, if_neg (by decide), if_pos rfl] at o2
    rw [mNx, if_neg (by decide), if_pos rfl] at h2
    refine ⟨q1, o1', k1, ?_⟩
    by_cases q2 : pd (k + 1) = 62
    · left
      rw [if_pos q2] at h2
      have k2 := mf_lt (by omega) (by decide) h2
      obtain ⟨o3, h3⟩ := mf_go (by omega) k2 h2
      rw [mOk, if_neg (by decide), if_neg (by decide), if_pos rfl] at o3
      rw [mNx, if_neg (by decide), if_neg (by decide), if_neg (by decide)] at h3
      exact ⟨q2, k2, o3, h3⟩
    · right
      rw [if_neg q2] at h2
      by_cases q3 : pd (k + 1) = 61
      · left
        rw [if_pos q3] at h2
        have k2 := mf_lt (by omega) (by decide) h2
        obtain ⟨o3, h3⟩ := mf_go (by omega) k2 h2
        rw [mOk, if_neg (by decide), if_neg (by decide), if_neg (by decide)] at o3
        rw [mNx, if_neg (by decide), if_neg (by decide), if_pos rfl] at h3
        have k3 := mf_lt (by omega) (by decide) h3
        obtain ⟨o4, h4⟩ := mf_go (by omega) k3 h3
        rw [mOk, if_neg (by decide), if_neg (by decide), if_pos rfl] at o4
        rw [mNx, if_neg (by decide), if_neg (by decide), if_neg (by decide)] at h4
        exact ⟨q2, q3, k3, o3, o4, h4⟩
      · right
        rw [if_neg q3] at h2
        rw [decide_eq_false q2, decide_eq_false q3, Bool.or_false, Bool.or_false] at o2
        exact ⟨q2, q3, o2, h2⟩
def ltr (g : Int32) : Nat := (g - 65).toNatClampNeg
def dgt (g : Int32) : Nat := (g - 48).toNatClampNeg
theorem in_off {g x y : Int32} {a b : Nat} (hx : x = nI a) (hy : y = nI b) (ha : a < 1000) (hb : b < 1000) (h : sIn g x y = true) : ∃ v, a ≤ v ∧ v ≤ b ∧ g = nI v := by
  simp only [sIn, Bool.and_eq_true, decide_eq_true_eq] at h
  rw [hx, hy] at h
  obtain ⟨j, hj, rfl⟩ := nI_of (x := g) (fun z => absurd (Int32.lt_of_le_of_lt h.1 z) (nI_pos (by omega)))
  exact ⟨j, (nI_leI (by omega) hj).mp h.1, (nI_leI hj (by omega)).mp h.2, rfl⟩
theorem ltr_ok {g : Int32} (h : sIn g 65 72 = true) : g - 65 = nI (ltr g) ∧ ltr g < 8 := by
  obtain ⟨v, h1, h2, rfl⟩ := in_off (a := 65) (b := 72) rfl rfl (by decide) (by decide) h
  have e : nI v - 65 = nI (v - 65) := by rw [show (65 : Int32) = nI 65 from rfl, pk_sub h1]
  rw [ltr, e, nI_clamp (by omega)]
  exact ⟨rfl, by omega⟩
theorem dgt_ok {g : Int32} (h : sIn g 48 53 = true) : g - 48 = nI (dgt g) ∧ dgt g < 6 := by
  obtain ⟨v, h1, h2, rfl⟩ := in_off (a := 48) (b := 53) rfl rfl (by decide) (by decide) h
  have e : nI v - 48 = nI (v - 48) := by rw [show (48 : Int32) = nI 48 from rfl, pk_sub h1]
  rw [dgt, e, nI_clamp (by omega)]
  exact ⟨rfl, by omega⟩
def gyA (N : WS) (pd : Nat → Int32) (k : Nat) (M : MS) : MS :=
  if pd k = 46 then tre (mEndM M) (rEnd (mnw M))
  else if pd (k + 1) = 62 then tre (mDieM M (ltr (pd k)) (ltr (pd (k + 2)))) (rDie (mnw M) (ltr (pd k)) (ltr (pd (k + 2))))
  else if pd (k + 1) = 61 then tre (mLenM M (ltr (pd k)) (ltr (pd (k + 3))) (pd (k + 2) - 48)) (rLen (mnw M) (ltr (pd k)) (ltr (pd (k + 3))) (pd (k + 2) - 48))
  else tre (mTryM N M (ltr (pd k)) (dgt (pd (k + 1)))) (if sBit (mnw M 94) (nI (ltr (pd k))) then 0 else 1)
def gyL (pd : Nat → Int32) (k : Nat) : Nat := if pd k = 46 then 1 else if pd (k + 1) = 62 then 3 else if pd (k + 1) = 61 then 4 else 2
def gyB (M : MS) : MS := tac (tot M (if mot M < 0 then (if mio M = 0 then mot M else mac M) else mot M)) (mac M + 1)
def gyGo (N : WS) (pd : Nat → Int32) (c : Nat) : Nat → Nat → MS → Int32 × MS
  | 0, _, M => (-6, M)
  | f + 1, k, M => if c ≤ k then (-6, M) else if 0 < mre (gyA N pd k (tio M 0)) then (mac (gyA N pd k (tio M 0)), gyA N pd k (tio M 0)) else gyGo N pd c f (k + gyL pd k) (gyB (gyA N pd k (tio M 0)))
def gyKeep (M M2 : MS) : Prop := mbk M2 = mbk M ∧ mwn M2 = mwn M ∧ mhi M2 = mhi M ∧ msg M2 = msg M ∧ msi M2 = msi M ∧ msn M2 = msn M ∧ mpd M2 = mpd M ∧ mmo M2 = mmo M ∧ mye M2 = mye M ∧ mim M2 = mim M ∧ mkp M2 = mkp M
theorem keep_rf (M : MS) : gyKeep M M := ⟨rfl, rfl, rfl, rfl, rfl, rfl, rfl, rfl, rfl, rfl, rfl⟩
theorem keep_tr {M M2 M3 : MS} (h : gyKeep M M2) (g : gyKeep M2 M3) : gyKeep M M3 := by
  obtain ⟨a1, a2, a3, a4, a5, a6, a7, a8, a9, a10, a11⟩ := h
  obtain ⟨b1, b2, b3, b4, b5, b6, b7, b8, b9, b10, b11⟩ := g
  exact ⟨b1.trans a1, b2.trans a2, b3.trans a3, b4.trans a4, b5.trans a5, b6.trans a6, b7.trans a7, b8.trans a8, b9.trans a9, b10.trans a10, b11.trans a11⟩
theorem keep_end (M : MS) : gyKeep M (mEndM M) := by unfold mEndM; split <;> exact ⟨rfl, rfl, rfl, rfl, rfl, rfl, rfl, rfl, rfl, rfl, rfl⟩
theorem keep_die (M : MS) (i j : Nat) : gyKeep M (mDieM M i j) := by unfold mDieM; split <;> exact ⟨rfl, rfl, rfl, rfl, rfl, rfl, rfl, rfl, rfl, rfl, rfl⟩
theorem keep_len (M : MS) (i j : Nat) (k : Int32) : gyKeep M (mLenM M i j k) := by unfold mLenM; split <;> exact ⟨rfl, rfl, rfl, rfl, rfl, rfl, rfl, rfl, rfl, rfl, rfl⟩
theorem keep_try (N : WS) (M : MS) (i x : Nat) : gyKeep M (mTryM N M i x) := by
  unfold mTryM; split
  · split <;> exact ⟨rfl, rfl, rfl, rfl, rfl, rfl, rfl, rfl, rfl, rfl, rfl⟩
  · exact ⟨rfl, rfl, rfl, rfl, rfl, rfl, rfl, rfl, rfl, rfl, rfl⟩
theorem keep_gyA (N : WS) (pd : Nat → Int32) (k : Nat) (M : MS) : gyKeep M (gyA N pd k M) := by
  unfold gyA
  split
  · exact keep_end M
  · split
    · exact keep_die M _ _
    · split
      · exact keep_len M _ _ _
      · exact keep_try N M _ _
theorem keep_gyB (M : MS) : gyKeep M (gyB M) := ⟨rfl, rfl, rfl, rfl, rfl, rfl, rfl, rfl, rfl, rfl, rfl⟩
theorem keep_go (N : WS) (pd : Nat → Int32) (c : Nat) : ∀ f k M, gyKeep M (gyGo N pd c f k M).2
  | 0, k, M => keep_rf M
  | f + 1, k, M => by
    rw [gyGo]
    split
    · exact keep_rf M
    · split
      · exact keep_tr (M2 := tio M 0) (keep_rf M) (keep_gyA N pd k (tio M 0))
      · exact keep_tr (keep_tr (M2 := tio M 0) (keep_rf M) (keep_gyA N pd k (tio M 0))) (keep_tr (keep_gyB _) (keep_go N pd c f _ _))
theorem gy_ot {a b : Int32} {x y : Int32} : (if a < 0 then (if b = 0 then x else y) else x) = (if 0 ≤ a then x else if b = 0 then x else y) := by
  by_cases h : a < 0
  · rw [if_pos h, if_neg (Int32.not_le.mpr h)]
  · rw [if_neg h, if_pos (Int32.not_lt.mp h)]
set_option maxRecDepth 100000 in
set_option maxHeartbeats 1000000 in
theorem pm_X7_goYears {l : Launch} {D : va_G} {h : PH} {M : MS} (hb : 38 < h.length) {c : Nat} (hc : c ≤ 60) (hs : msn M = nI c) {N : WS} (hW : RW N M) (hf : mfgo (mpd M) c 0 0 = -6) : PM l D YX7_goYears 4 [.ref 28] (mput h M) 0 0 (some (.int (gyGo N (mpd M) c c 0 (tac (mNow M) 0)).1)) (mput h (gyGo N (mpd M) c c 0 (tac (mNow M) 0)).2) := by
  refine pm_of2 (n0 := h.length) kb_YX7_goYears (mlen hb) [some (.ref 28), none, none, none] (fun _ => rfl) (fun _ => (Nat.le_of_ble_eq_true rfl)) ?_
  have loop : ∀ (f k : Nat) (P : MS), gyKeep M P → c ≤ k + f → k ≤ c → mfgo (mpd M) (c - k) k 0 = -6 → gyGo N (mpd M) c f k P = (gyGo N (mpd M) c c 0 (tac (mNow M) 0)) → ∀ o1 o2, Wp l D YX7_goYears (pRm 4 0 0) h.length (fun _ _ _ => True) (mE D h.length 0 0 (some (.int (gyGo N (mpd M) c c 0 (tac (mNow M) 0)).1)) (mput h (gyGo N (mpd M) c c 0 (tac (mNow M) 0)).2)) 11 [some (.ref 28), some (.int (nI k)), o1, o2] [] (mput h P) 0 := by
    intro f
    induction f with
    | zero =>
      intro k P hP hk1 hk2 hw hr o1 o2
      have hk : k = c := by omega
      subst hk
      have hsP : msn P = nI k := hP.2.2.2.2.2.1.trans hs
      refine w_iload_n dX7_goYears_11 rfl ?_
      refine w_aload_n dX7_goYears_12 rfl ?_
      refine w_get dX7_goYears_13 f_X7_60 (mg0 hb) rfl ?_
      refine w_icmp_ge_t (tgt := 213) dX7_goYears_16 (by decide) (by rw [hsP]; exact Int32.le_refl _) ?_
      refine w_bipush (v := (-6)) dX7_goYears_213 (by decide) ?_
      exact w_iret dX7_goYears_215 rfl (by rw [← hr, gyGo]) (by rw [← hr, gyGo]) (mlen hb) (Nat.le_refl 0)
    | succ f ih =>
      intro k P hP hk1 hk2 hw hr o1 o2
      have hsP : msn P = nI c := hP.2.2.2.2.2.1.trans hs
      have hpP : mpd P = mpd M := hP.2.2.2.2.2.2.1
      have hWP : RW N (tio P 0) := fun j hj => by
        show mwn P j = wwn N j ∧ mhi P j = whi N j
        rw [hP.2.1, hP.2.2.1]; exact hW j hj
      rw [gyGo] at hr
      rcases Nat.lt_or_ge k c with hkc | hkc
      · rw [if_neg (by omega)] at hr
        have hA : gyKeep M (gyA N (mpd M) k (tio P 0)) := keep_tr (keep_tr hP (M3 := tio P 0) (keep_rf P)) (keep_gyA N (mpd M) k (tio P 0))
        have tail : mfgo (mpd M) (c - (k + gyL (mpd M) k)) (k + gyL (mpd M) k) 0 = -6 → k + gyL (mpd M) k ≤ c → 1 ≤ gyL (mpd M) k → ∀ o1 o2, Wp l D YX7_goYears (pRm 4 0 0) h.length (fun _ _ _ => True) (mE D h.length 0 0 (some (.int (gyGo N (mpd M) c c 0 (tac (mNow M) 0)).1)) (mput h (gyGo N (mpd M) c c 0 (tac (mNow M) 0)).2)) 159 [some (.ref 28), some (.int (nI (k + gyL (mpd M) k))), o1, o2] [] (mput h (gyA N (mpd M) k (tio P 0))) 0 := by
          intro hw2 hk3 hk4 o1 o2
          generalize gyA N (mpd M) k (tio P 0) = Q at hr hA ⊢
          refine w_aload_n dX7_goYears_159 rfl ?_
          refine w_get dX7_goYears_160 f_X7_97 (mg0 hb) rfl ?_
          refine w_if_le (tgt := 171) dX7_goYears_163 (by decide) (fun c_163 => ?_) (fun c_163 => ?_)
          · skip
            refine w_aload_n dX7_goYears_171 rfl ?_
            refine w_aload_n dX7_goYears_172 rfl ?_
            refine w_get dX7_goYears_173 f_X7_74 (mg0 hb) rfl ?_
            refine w_tif_ge (a := ?a176_1) (b := ?b176_1) (pJ := 197) (tgt := 193) dX7_goYears_176 (by decide) (fun c_176 k => ?hA176_1) (fun c_176 k => ?hB176_1) ?hk176_1
            case hA176_1 =>
              refine w_aload_n dX7_goYears_193 rfl ?_
              refine w_get dX7_goYears_194 f_X7_74 (mg0 hb) rfl ?_
              exact k
            case hB176_1 =>
              refine w_aload_n dX7_goYears_179 rfl ?_
              refine w_get dX7_goYears_180 f_X7_80 (mg0 hb) rfl ?_
              refine w_tif_eq (a := ?a183_2) (b := ?b183_2) (pJ := 197) (tgt := 193) dX7_goYears_183 (by decide) (fun c_183 k => ?hA183_2) (fun c_183 k => ?hB183_2) ?hk183_2
              case hA183_2 =>
                refine w_aload_n dX7_goYears_193 rfl ?_
                refine w_get dX7_goYears_194 f_X7_74 (mg0 hb) rfl ?_
                exact k
              case hB183_2 =>
                refine w_aload_n dX7_goYears_186 rfl ?_
                refine w_get dX7_goYears_187 f_X7_91 (mg0 hb) rfl ?_
                refine w_goto (tgt := 197) dX7_goYears_190 (by decide) ?_
                exact k
              exact k
            refine w_pM9 dX7_goYears_197 f_X7_74 hb ?_
            refine w_aload_n dX7_goYears_200 rfl ?_
            refine w_dup dX7_goYears_201 rfl ?_
            refine w_get dX7_goYears_202 f_X7_91 (mg0 hb) rfl ?_
            refine w_iconst (v := 1) dX7_goYears_205 (by decide) ?_
            refine w_iadd dX7_goYears_206 ?_
            refine w_pM12 dX7_goYears_207 f_X7_91 hb ?_
            refine w_goto (tgt := 11) dX7_goYears_210 (by decide) ?_
            rw [if_neg (Int32.not_lt.mpr c_163)] at hr
            refine w_heq (h2 := mput h (gyB Q)) ?_ (ih _ _ (keep_tr hA (keep_gyB Q)) (by omega) hk3 hw2 hr _ _)
            rw [gyB, gy_ot]
            rfl
          · skip
            refine w_aload_n dX7_goYears_166 rfl ?_
            refine w_get dX7_goYears_167 f_X7_91 (mg0 hb) rfl ?_
            exact w_iret dX7_goYears_170 rfl (by rw [if_pos (Int32.not_le.mp c_163)] at hr; rw [← hr]) (by rw [if_pos (Int32.not_le.mp c_163)] at hr; rw [← hr]) (mlen hb) (Nat.le_refl 0)
        rcases wf_step hc hkc hw with ⟨p1, w1⟩ | ⟨p1, l1, k1, ⟨p2, k2, l2, w1⟩ | ⟨p2, p3, k3, d2, l3, w1⟩ | ⟨p2, p3, d2, w1⟩⟩
        · skip
          refine w_iload_n dX7_goYears_11 rfl ?_
          refine w_aload_n dX7_goYears_12 rfl ?_
          refine w_get dX7_goYears_13 f_X7_60 (mg0 hb) rfl ?_
          refine w_icmp_ge_f dX7_goYears_16 ⟨213, by decide⟩ (by rw [hsP]; exact nI_ge (by omega) (by omega)) ?_
          refine w_aload_n dX7_goYears_19 rfl ?_
          refine w_iconst (v := 0) dX7_goYears_20 (by decide) ?_
          refine w_pM10 dX7_goYears_21 f_X7_80 hb rfl rfl ?_
          refine w_aload_n dX7_goYears_24 rfl ?_
          refine w_get dX7_goYears_25 f_X7_25 (mg0 hb) rfl ?_
          refine w_iload_n dX7_goYears_28 rfl ?_
          refine w_ialdN (k := k) dX7_goYears_29 (mg_pd hb) rfl (by omega) (kk := ?_)
          change Wp _ _ _ _ _ _ _ _ _ (.int (mpd P k) :: _) _ _
          rw [hpP]
          refine w_bipush (v := 46) dX7_goYears_30 (by decide) ?_
          refine w_icmp_ne_f dX7_goYears_32 ⟨49, by decide⟩ p1 ?_
          refine w_aload_n dX7_goYears_35 rfl ?_
          refine w_aload_n dX7_goYears_36 rfl ?_
          refine w_callVr dX7_goYears_37 k_X7_94 (pm_X7_endYear (M := tio P 0) hb) rfl rfl (mg0 hb) rfl (Nat.le_of_ble_eq_true rfl) (Nat.le_of_ble_eq_true rfl) (Nat.le_of_ble_eq_true rfl) (rc00 (mlen hb) (Nat.le_refl 0)) ?_
          refine w_pM11 dX7_goYears_40 f_X7_97 hb ?_
          refine w_iinc_1 (v := 1) dX7_goYears_43 (by decide) (Nat.le_of_ble_eq_true rfl) rfl ?_
          refine w_goto (tgt := 159) dX7_goYears_46 (by decide) ?_
          have eL : gyL (mpd M) k = 1 := by rw [gyL, if_pos p1]
          have q9 := tail (by rw [eL]; exact w1) (by rw [eL]; omega) (by rw [eL]; omega)
          rw [eL] at q9
          have eA : gyA N (mpd M) k (tio P 0) = tre (mEndM (tio P 0)) (rEnd (mnw (tio P 0))) := by rw [gyA, if_pos p1]
          rw [eA] at q9
          exact w_loc_1 (nadd rfl rfl) (q9 _ _)
        · skip
          refine w_iload_n dX7_goYears_11 rfl ?_
          refine w_aload_n dX7_goYears_12 rfl ?_
          refine w_get dX7_goYears_13 f_X7_60 (mg0 hb) rfl ?_
          refine w_icmp_ge_f dX7_goYears_16 ⟨213, by decide⟩ (by rw [hsP]; exact nI_ge (by omega) (by omega)) ?_
          refine w_aload_n dX7_goYears_19 rfl ?_
          refine w_iconst (v := 0) dX7_goYears_20 (by decide) ?_
          refine w_pM10 dX7_goYears_21 f_X7_80 hb rfl rfl ?_
          refine w_aload_n dX7_goYears_24 rfl ?_
          refine w_get dX7_goYears_25 f_X7_25 (mg0 hb) rfl ?_
          refine w_iload_n dX7_goYears_28 rfl ?_
          refine w_ialdN (k := k) dX7_goYears_29 (mg_pd hb) rfl (by omega) (kk := ?_)
          change Wp _ _ _ _ _ _ _ _ _ (.int (mpd P k) :: _) _ _
          rw [hpP]
          refine w_bipush (v := 46) dX7_goYears_30 (by decide) ?_
          refine w_icmp_ne_t (tgt := 49) dX7_goYears_32 (by decide) p1 ?_
          refine w_aload_n dX7_goYears_49 rfl ?_
          refine w_get dX7_goYears_50 f_X7_25 (mg0 hb) rfl ?_
          refine w_iload_n dX7_goYears_53 rfl ?_
          refine w_ialdN (k := k) dX7_goYears_54 (mg_pd hb) rfl (by omega) (kk := ?_)
          change Wp _ _ _ _ _ _ _ _ _ (.int (mpd P k) :: _) _ _
          rw [hpP]
          refine w_bipush (v := 65) dX7_goYears_55 (by decide) ?_
          refine w_isub dX7_goYears_57 ?_
          rw [(ltr_ok l1).1]
          refine w_istore_2 dX7_goYears_58 (Nat.le_of_ble_eq_true rfl) rfl ?_
          refine w_aload_n dX7_goYears_59 rfl ?_
          refine w_get dX7_goYears_60 f_X7_25 (mg0 hb) rfl ?_
          refine w_iload_n dX7_goYears_63 rfl ?_
          refine w_iconst (v := 1) dX7_goYears_64 (by decide) ?_
          refine w_iadd dX7_goYears_65 ?_
          refine w_ialdN (k := (k + 1)) dX7_goYears_66 (mg_pd hb) (nadd rfl rfl) (by omega) (kk := ?_)
          change Wp _ _ _ _ _ _ _ _ _ (.int (mpd P (k + 1)) :: _) _ _
          rw [hpP]
          refine w_istore_3 dX7_goYears_67 (Nat.le_of_ble_eq_true rfl) rfl ?_
          refine w_iload_n dX7_goYears_68 rfl ?_
          refine w_bipush (v := 62) dX7_goYears_69 (by decide) ?_
          refine w_icmp_ne_f dX7_goYears_71 ⟨100, by decide⟩ p2 ?_
          refine w_aload_n dX7_goYears_74 rfl ?_
          refine w_aload_n dX7_goYears_75 rfl ?_
          refine w_iload_n dX7_goYears_76 rfl ?_
          refine w_aload_n dX7_goYears_77 rfl ?_
          refine w_get dX7_goYears_78 f_X7_25 (mg0 hb) rfl ?_
          refine w_iload_n dX7_goYears_81 rfl ?_
          refine w_iconst (v := 2) dX7_goYears_82 (by decide) ?_
          refine w_iadd dX7_goYears_83 ?_
          refine w_ialdN (k := (k + 2)) dX7_goYears_84 (mg_pd hb) (nadd rfl rfl) (by omega) (kk := ?_)
          change Wp _ _ _ _ _ _ _ _ _ (.int (mpd P (k + 2)) :: _) _ _
          rw [hpP]
          refine w_bipush (v := 65) dX7_goYears_85 (by decide) ?_
          refine w_isub dX7_goYears_87 ?_
          rw [(ltr_ok l2).1]
          refine w_callVr dX7_goYears_88 k_X7_100 (pm_X7_dies (M := tio P 0) hb (ltr_ok l1).2 (ltr_ok l2).2) rfl rfl (mg0 hb) rfl (Nat.le_of_ble_eq_true rfl) (Nat.le_of_ble_eq_true rfl) (Nat.le_of_ble_eq_true rfl) (rc00 (mlen hb) (Nat.le_refl 0)) ?_
          refine w_pM11 dX7_goYears_91 f_X7_97 hb ?_
          refine w_iinc_1 (v := 3) dX7_goYears_94 (by decide) (Nat.le_of_ble_eq_true rfl) rfl ?_
          refine w_goto (tgt := 159) dX7_goYears_97 (by decide) ?_
          have eL : gyL (mpd M) k = 3 := by rw [gyL, if_neg p1, if_pos p2]
          have q9 := tail (by rw [eL]; exact w1) (by rw [eL]; omega) (by rw [eL]; omega)
          rw [eL] at q9
          have eA : gyA N (mpd M) k (tio P 0) = tre (mDieM (tio P 0) (ltr (mpd M k)) (ltr (mpd M (k + 2)))) (rDie (mnw (tio P 0)) (ltr (mpd M k)) (ltr (mpd M (k + 2)))) := by rw [gyA, if_neg p1, if_pos p2]
          rw [eA] at q9
          exact w_loc_1 (nadd rfl rfl) (q9 _ _)
        · skip
          refine w_iload_n dX7_goYears_11 rfl ?_
          refine w_aload_n dX7_goYears_12 rfl ?_
          refine w_get dX7_goYears_13 f_X7_60 (mg0 hb) rfl ?_
          refine w_icmp_ge_f dX7_goYears_16 ⟨213, by decide⟩ (by rw [hsP]; exact nI_ge (by omega) (by omega)) ?_
          refine w_aload_n dX7_goYears_19 rfl ?_
          refine w_iconst (v := 0) dX7_goYears_20 (by decide) ?_
          refine w_pM10 dX7_goYears_21 f_X7_80 hb rfl rfl ?_
          refine w_aload_n dX7_goYears_24 rfl ?_
          refine w_get dX7_goYears_25 f_X7_25 (mg0 hb) rfl ?_
          refine w_iload_n dX7_goYears_28 rfl ?_
          refine w_ialdN (k := k) dX7_goYears_29 (mg_pd hb) rfl (by omega) (kk := ?_)
          change Wp _ _ _ _ _ _ _ _ _ (.int (mpd P k) :: _) _ _
          rw [hpP]
          refine w_bipush (v := 46) dX7_goYears_30 (by decide) ?_
          refine w_icmp_ne_t (tgt := 49) dX7_goYears_32 (by decide) p1 ?_
          refine w_aload_n dX7_goYears_49 rfl ?_
          refine w_get dX7_goYears_50 f_X7_25 (mg0 hb) rfl ?_
          refine w_iload_n dX7_goYears_53 rfl ?_
          refine w_ialdN (k := k) dX7_goYears_54 (mg_pd hb) rfl (by omega) (kk := ?_)
          change Wp _ _ _ _ _ _ _ _ _ (.int (mpd P k) :: _) _ _
          rw [hpP]
          refine w_bipush (v := 65) dX7_goYears_55 (by decide) ?_
          refine w_isub dX7_goYears_57 ?_
          rw [(ltr_ok l1).1]
          refine w_istore_2 dX7_goYears_58 (Nat.le_of_ble_eq_true rfl) rfl ?_
          refine w_aload_n dX7_goYears_59 rfl ?_
          refine w_get dX7_goYears_60 f_X7_25 (mg0 hb) rfl ?_
          refine w_iload_n dX7_goYears_63 rfl ?_
          refine w_iconst (v := 1) dX7_goYears_64 (by decide) ?_
          refine w_iadd dX7_goYears_65 ?_
          refine w_ialdN (k := (k + 1)) dX7_goYears_66 (mg_pd hb) (nadd rfl rfl) (by omega) (kk := ?_)
          change Wp _ _ _ _ _ _ _ _ _ (.int (mpd P (k + 1)) :: _) _ _
          rw [hpP]
          refine w_istore_3 dX7_goYears_67 (Nat.le_of_ble_eq_true rfl) rfl ?_
          refine w_iload_n dX7_goYears_68 rfl ?_
          refine w_bipush (v := 62) dX7_goYears_69 (by decide) ?_
          refine w_icmp_ne_t (tgt := 100) dX7_goYears_71 (by decide) p2 ?_
          refine w_iload_n dX7_goYears_100 rfl ?_
          refine w_bipush (v := 61) dX7_goYears_101 (by decide) ?_
          refine w_icmp_ne_f dX7_goYears_103 ⟨143, by decide⟩ p3 ?_
          refine w_aload_n dX7_goYears_106 rfl ?_
          refine w_aload_n dX7_goYears_107 rfl ?_
          refine w_iload_n dX7_goYears_108 rfl ?_
          refine w_aload_n dX7_goYears_109 rfl ?_
          refine w_get dX7_goYears_110 f_X7_25 (mg0 hb) rfl ?_
          refine w_iload_n dX7_goYears_113 rfl ?_
          refine w_iconst (v := 2) dX7_goYears_114 (by decide) ?_
          refine w_iadd dX7_goYears_115 ?_
          refine w_ialdN (k := (k + 2)) dX7_goYears_116 (mg_pd hb) (nadd rfl rfl) (by omega) (kk := ?_)
          change Wp _ _ _ _ _ _ _ _ _ (.int (mpd P (k + 2)) :: _) _ _
          rw [hpP]
          refine w_bipush (v := 48) dX7_goYears_117 (by decide) ?_
          refine w_isub dX7_goYears_119 ?_
          refine w_aload_n dX7_goYears_120 rfl ?_
          refine w_get dX7_goYears_121 f_X7_25 (mg0 hb) rfl ?_
          refine w_iload_n dX7_goYears_124 rfl ?_
          refine w_iconst (v := 3) dX7_goYears_125 (by decide) ?_
          refine w_iadd dX7_goYears_126 ?_
          refine w_ialdN (k := (k + 3)) dX7_goYears_127 (mg_pd hb) (nadd rfl rfl) (by omega) (kk := ?_)
          change Wp _ _ _ _ _ _ _ _ _ (.int (mpd P (k + 3)) :: _) _ _
          rw [hpP]
          refine w_bipush (v := 65) dX7_goYears_128 (by decide) ?_
          refine w_isub dX7_goYears_130 ?_
          rw [(ltr_ok l3).1]
          refine w_callVr dX7_goYears_131 k_X7_104 (pm_X7_lends (M := tio P 0) hb (ltr_ok l1).2 (ltr_ok l3).2) rfl rfl (mg0 hb) rfl (Nat.le_of_ble_eq_true rfl) (Nat.le_of_ble_eq_true rfl) (Nat.le_of_ble_eq_true rfl) (rc00 (mlen hb) (Nat.le_refl 0)) ?_
          refine w_pM11 dX7_goYears_134 f_X7_97 hb ?_
          refine w_iinc_1 (v := 4) dX7_goYears_137 (by decide) (Nat.le_of_ble_eq_true rfl) rfl ?_
          refine w_goto (tgt := 159) dX7_goYears_140 (by decide) ?_
          have eL : gyL (mpd M) k = 4 := by rw [gyL, if_neg p1, if_neg p2, if_pos p3]
          have q9 := tail (by rw [eL]; exact w1) (by rw [eL]; omega) (by rw [eL]; omega)
          rw [eL] at q9
          have eA : gyA N (mpd M) k (tio P 0) = tre (mLenM (tio P 0) (ltr (mpd M k)) (ltr (mpd M (k + 3))) (mpd M (k + 2) - 48)) (rLen (mnw (tio P 0)) (ltr (mpd M k)) (ltr (mpd M (k + 3))) (mpd M (k + 2) - 48)) := by rw [gyA, if_neg p1, if_neg p2, if_pos p3]
          rw [eA] at q9
          exact w_loc_1 (nadd rfl rfl) (q9 _ _)
        · skip
          refine w_iload_n dX7_goYears_11 rfl ?_
          refine w_aload_n dX7_goYears_12 rfl ?_
          refine w_get dX7_goYears_13 f_X7_60 (mg0 hb) rfl ?_
          refine w_icmp_ge_f dX7_goYears_16 ⟨213, by decide⟩ (by rw [hsP]; exact nI_ge (by omega) (by omega)) ?_
          refine w_aload_n dX7_goYears_19 rfl ?_
          refine w_iconst (v := 0) dX7_goYears_20 (by decide) ?_
          refine w_pM10 dX7_goYears_21 f_X7_80 hb rfl rfl ?_
          refine w_aload_n dX7_goYears_24 rfl ?_
          refine w_get dX7_goYears_25 f_X7_25 (mg0 hb) rfl ?_
          refine w_iload_n dX7_goYears_28 rfl ?_
          refine w_ialdN (k := k) dX7_goYears_29 (mg_pd hb) rfl (by omega) (kk := ?_)
          change Wp _ _ _ _ _ _ _ _ _ (.int (mpd P k) :: _) _ _
          rw [hpP]
          refine w_bipush (v := 46) dX7_goYears_30 (by decide) ?_
          refine w_icmp_ne_t (tgt := 49) dX7_goYears_32 (by decide) p1 ?_
          refine w_aload_n dX7_goYears_49 rfl ?_
          refine w_get dX7_goYears_50 f_X7_25 (mg0 hb) rfl ?_
          refine w_iload_n dX7_goYears_53 rfl ?_
          refine w_ialdN (k := k) dX7_goYears_54 (mg_pd hb) rfl (by omega) (kk := ?_)
          change Wp _ _ _ _ _ _ _ _ _ (.int (mpd P k) :: _) _ _
          rw [hpP]
          refine w_bipush (v := 65) dX7_goYears_55 (by decide) ?_
          refine w_isub dX7_goYears_57 ?_
          rw [(ltr_ok l1).1]
          refine w_istore_2 dX7_goYears_58 (Nat.le_of_ble_eq_true rfl) rfl ?_
          refine w_aload_n dX7_goYears_59 rfl ?_
          refine w_get dX7_goYears_60 f_X7_25 (mg0 hb) rfl ?_
          refine w_iload_n dX7_goYears_63 rfl ?_
          refine w_iconst (v := 1) dX7_goYears_64 (by decide) ?_
          refine w_iadd dX7_goYears_65 ?_
          refine w_ialdN (k := (k + 1)) dX7_goYears_66 (mg_pd hb) (nadd rfl rfl) (by omega) (kk := ?_)
          change Wp _ _ _ _ _ _ _ _ _ (.int (mpd P (k + 1)) :: _) _ _
          rw [hpP]
          refine w_istore_3 dX7_goYears_67 (Nat.le_of_ble_eq_true rfl) rfl ?_
          refine w_iload_n dX7_goYears_68 rfl ?_
          refine w_bipush (v := 62) dX7_goYears_69 (by decide) ?_
          refine w_icmp_ne_t (tgt := 100) dX7_goYears_71 (by decide) p2 ?_
          refine w_iload_n dX7_goYears_100 rfl ?_
          refine w_bipush (v := 61) dX7_goYears_101 (by decide) ?_
          refine w_icmp_ne_t (tgt := 143) dX7_goYears_103 (by decide) p3 ?_
          refine w_aload_n dX7_goYears_143 rfl ?_
          refine w_aload_n dX7_goYears_144 rfl ?_
          refine w_iload_n dX7_goYears_145 rfl ?_
          refine w_iload_n dX7_goYears_146 rfl ?_
          refine w_bipush (v := 48) dX7_goYears_147 (by decide) ?_
          refine w_isub dX7_goYears_149 ?_
          rw [(dgt_ok d2).1]
          refine w_callVr dX7_goYears_150 k_X7_108 (pm_X7_tries (M := tio P 0) hb hWP (ltr_ok l1).2 (dgt_ok d2).2) rfl rfl (mg0 hb) rfl (Nat.le_of_ble_eq_true rfl) (Nat.le_of_ble_eq_true rfl) (Nat.le_of_ble_eq_true rfl) (rc00 (mlen hb) (Nat.le_refl 0)) ?_
          refine w_pM11 dX7_goYears_153 f_X7_97 hb ?_
          refine w_iinc_1 (v := 2) dX7_goYears_156 (by decide) (Nat.le_of_ble_eq_true rfl) rfl ?_
          have eL : gyL (mpd M) k = 2 := by rw [gyL, if_neg p1, if_neg p2, if_neg p3]
          have q9 := tail (by rw [eL]; exact w1) (by rw [eL]; omega) (by rw [eL]; omega)
          rw [eL] at q9
          have eA : gyA N (mpd M) k (tio P 0) = tre (mTryM N (tio P 0) (ltr (mpd M k)) (dgt (mpd M (k + 1)))) (if sBit (mnw (tio P 0) 94) (nI (ltr (mpd M k))) then 0 else 1) := by rw [gyA, if_neg p1, if_neg p2, if_neg p3]
          rw [eA] at q9
          exact w_loc_1 (nadd rfl rfl) (q9 _ _)
      · rw [if_pos hkc] at hr
        have hk : k = c := by omega
        subst hk
        refine w_iload_n dX7_goYears_11 rfl ?_
        refine w_aload_n dX7_goYears_12 rfl ?_
        refine w_get dX7_goYears_13 f_X7_60 (mg0 hb) rfl ?_
        refine w_icmp_ge_t (tgt := 213) dX7_goYears_16 (by decide) (by rw [hsP]; exact Int32.le_refl _) ?_
        refine w_bipush (v := (-6)) dX7_goYears_213 (by decide) ?_
        exact w_iret dX7_goYears_215 rfl (by rw [← hr]) (by rw [← hr]) (mlen hb) (Nat.le_refl 0)
  refine w_aload_n dX7_goYears_0 rfl ?_
  refine w_callVv dX7_goYears_1 k_X7_88 (pm_X7_asNow hb) rfl rfl (mg0 hb) rfl (Nat.le_of_ble_eq_true rfl) (Nat.le_of_ble_eq_true rfl) (Nat.le_of_ble_eq_true rfl) (rc00 (mlen hb) (Nat.le_refl 0)) ?_
  refine w_aload_n dX7_goYears_4 rfl ?_
  refine w_iconst (v := 0) dX7_goYears_5 (by decide) ?_
  refine w_pM12 dX7_goYears_6 f_X7_91 hb ?_
  refine w_iconst (v := 0) dX7_goYears_9 (by decide) ?_
  refine w_istore_1 dX7_goYears_10 (Nat.le_of_ble_eq_true rfl) rfl ?_
  exact loop c 0 (tac (mNow M) 0) (keep_rf M) (by omega) (by omega) hf rfl _ _

def gyR (N : WS) (M : MS) (c : Nat) : Int32 × MS := gyGo N (mpd M) c c 0 (tac (mNow M) 0)
theorem mf_rng (pd : Nat → Int32) (c : Nat) (hc : c ≤ 60) : mfgo pd c 0 0 = -6 ∨ ∃ k, k ≤ 60 ∧ mfgo pd c 0 0 = nI k := by
  have key : ∀ n i a, i + n ≤ 60 → mfgo pd n i a = -6 ∨ ∃ k, k ≤ 60 ∧ mfgo pd n i a = nI k := by
    intro n
    induction n with
    | zero =>
      intro i a h
      rw [mfgo]
      split
      · exact Or.inl rfl
      · exact Or.inr ⟨i, by omega, rfl⟩
    | succ n ih =>
      intro i a h
      rw [mfgo]
      split
      · exact ih (i + 1) _ (by omega)
      · exact Or.inr ⟨i, by omega, rfl⟩
  exact key c 0 0 (by omega)
theorem mf_nn {pd : Nat → Int32} {c : Nat} (hc : c ≤ 60) (hf : ¬ mfgo pd c 0 0 = -6) : 0 ≤ mfgo pd c 0 0 := by
  rcases mf_rng pd c hc with e | ⟨k, hk, e⟩
  · exact absurd e hf
  · rw [e]; exact nI_pos' (by omega)
theorem mf_nl {pd : Nat → Int32} {c : Nat} (hc : c ≤ 60) (hf : ¬ mfgo pd c 0 0 = -6) : ¬ mfgo pd c 0 0 < 0 := Int32.not_lt.mpr (mf_nn hc hf)
set_option maxRecDepth 100000 in
set_option maxHeartbeats 1000000 in
theorem pm_X7_judge_f {l : Launch} {D : va_G} {h : PH} {M : MS} (hb : 38 < h.length) {c : Nat} (hc : c ≤ 60) (hs : msn M = nI c) {N : WS} (hW : RW N M) (hf : ¬ mfgo (mpd M) c 0 0 = -6) {w : Int32} (hw : sIn w 0 1 = true) : PM l D YX7_judge 5 [.ref 28, .int w] (mput h M) 0 0 (some (.int (-5))) (mput h M) := by
  refine pm_of2 (n0 := h.length) kb_YX7_judge (mlen hb) [some (.ref 28), some (.int w), none] (fun _ => rfl) (fun _ => (Nat.le_of_ble_eq_true rfl)) ?_
  refine w_iload_n dX7_judge_0 rfl ?_
  refine w_iconst (v := 0) dX7_judge_1 (by decide) ?_
  refine w_iconst (v := 1) dX7_judge_2 (by decide) ?_
  refine w_callSr dX7_judge_3 k_X7_41 (pm_X7_in) rfl rfl (Nat.le_of_ble_eq_true rfl) (Nat.le_of_ble_eq_true rfl) (Nat.le_of_ble_eq_true rfl) (rc00 (mlen hb) (Nat.le_refl 0)) ?_
  refine w_zif_ne_t (tgt := 12) dX7_judge_6 (by decide) hw ?_
  refine w_aload_n dX7_judge_12 rfl ?_
  refine w_callVr dX7_judge_13 k_X7_67 (pm_X7_faultOf hb hc hs) rfl rfl (mg0 hb) rfl (Nat.le_of_ble_eq_true rfl) (Nat.le_of_ble_eq_true rfl) (Nat.le_of_ble_eq_true rfl) (rc00 (mlen hb) (Nat.le_refl 0)) ?_
  refine w_if_lt_f dX7_judge_16 ⟨22, by decide⟩ (mf_nl hc hf) ?_
  refine w_bipush (v := (-5)) dX7_judge_19 (by decide) ?_
  exact w_iret dX7_judge_21 rfl rfl rfl (mlen hb) (Nat.le_refl 0)

set_option maxRecDepth 100000 in
set_option maxHeartbeats 1000000 in
theorem pm_X7_judge_o {l : Launch} {D : va_G} {h : PH} {M : MS} (hb : 38 < h.length) {w : Int32} (hw : sIn w 0 1 = false) : PM l D YX7_judge 5 [.ref 28, .int w] (mput h M) 0 0 (some (.int (-2))) (mput h M) := by
  refine pm_of2 (n0 := h.length) kb_YX7_judge (mlen hb) [some (.ref 28), some (.int w), none] (fun _ => rfl) (fun _ => (Nat.le_of_ble_eq_true rfl)) ?_
  refine w_iload_n dX7_judge_0 rfl ?_
  refine w_iconst (v := 0) dX7_judge_1 (by decide) ?_
  refine w_iconst (v := 1) dX7_judge_2 (by decide) ?_
  refine w_callSr dX7_judge_3 k_X7_41 (pm_X7_in) rfl rfl (Nat.le_of_ble_eq_true rfl) (Nat.le_of_ble_eq_true rfl) (Nat.le_of_ble_eq_true rfl) (rc00 (mlen hb) (Nat.le_refl 0)) ?_
  refine w_zif_ne_f dX7_judge_6 ⟨12, by decide⟩ hw ?_
  refine w_bipush (v := (-2)) dX7_judge_9 (by decide) ?_
  exact w_iret dX7_judge_11 rfl rfl rfl (mlen hb) (Nat.le_refl 0)

set_option maxRecDepth 100000 in
set_option maxHeartbeats 1000000 in
theorem pm_X7_judge_a {l : Launch} {D : va_G} {h : PH} {M : MS} (hb : 38 < h.length) {c : Nat} (hc : c ≤ 60) (hs : msn M = nI c) {N : WS} (hW : RW N M) (hf : mfgo (mpd M) c 0 0 = -6) {w : Int32} (hw : sIn w 0 1 = true) : PM l D YX7_judge 5 [.ref 28, .int w] (mput h M) 0 0 (some (.int (if (gyR N M c).1 < 0 then (gyR N M c).1 else if w = 0 then (gyR N M c).1 else mre (gyR N M c).2))) (mput h (gyR N M c).2) := by
  refine pm_of2 (n0 := h.length) kb_YX7_judge (mlen hb) [some (.ref 28), some (.int w), none] (fun _ => rfl) (fun _ => (Nat.le_of_ble_eq_true rfl)) ?_
  refine w_iload_n dX7_judge_0 rfl ?_
  refine w_iconst (v := 0) dX7_judge_1 (by decide) ?_
  refine w_iconst (v := 1) dX7_judge_2 (by decide) ?_
  refine w_callSr dX7_judge_3 k_X7_41 (pm_X7_in) rfl rfl (Nat.le_of_ble_eq_true rfl) (Nat.le_of_ble_eq_true rfl) (Nat.le_of_ble_eq_true rfl) (rc00 (mlen hb) (Nat.le_refl 0)) ?_
  refine w_zif_ne_t (tgt := 12) dX7_judge_6 (by decide) hw ?_
  refine w_aload_n dX7_judge_12 rfl ?_
  refine w_callVr dX7_judge_13 k_X7_67 (pm_X7_faultOf hb hc hs) rfl rfl (mg0 hb) rfl (Nat.le_of_ble_eq_true rfl) (Nat.le_of_ble_eq_true rfl) (Nat.le_of_ble_eq_true rfl) (rc00 (mlen hb) (Nat.le_refl 0)) ?_
  refine w_if_lt_t (tgt := 22) dX7_judge_16 (by decide) (by rw [hf]; decide) ?_
  refine w_aload_n dX7_judge_22 rfl ?_
  refine w_callVr dX7_judge_23 k_X7_111 (pm_X7_goYears hb hc hs hW (by assumption)) rfl rfl (mg0 hb) rfl (Nat.le_of_ble_eq_true rfl) (Nat.le_of_ble_eq_true rfl) (Nat.le_of_ble_eq_true rfl) (rc00 (mlen hb) (Nat.le_refl 0)) ?_
  refine w_istore_2 dX7_judge_26 (Nat.le_of_ble_eq_true rfl) rfl ?_
  refine w_iload_n dX7_judge_27 rfl ?_
  refine w_tif_lt (a := ?a28_1) (b := ?b28_1) (pJ := 43) (tgt := 35) dX7_judge_28 (by decide) (fun c_28 k => ?hA28_1) (fun c_28 k => ?hB28_1) ?hk28_1
  case hA28_1 =>
    refine w_iload_n dX7_judge_35 rfl ?_
    refine w_goto (tgt := 43) dX7_judge_36 (by decide) ?_
    exact k
  case hB28_1 =>
    refine w_iload_n dX7_judge_31 rfl ?_
    refine w_tif_ne (a := ?a32_2) (b := ?b32_2) (pJ := 43) (tgt := 39) dX7_judge_32 (by decide) (fun c_32 k => ?hA32_2) (fun c_32 k => ?hB32_2) ?hk32_2
    case hA32_2 =>
      refine w_aload_n dX7_judge_39 rfl ?_
      refine w_get dX7_judge_40 f_X7_97 (mg0 hb) rfl ?_
      exact k
    case hB32_2 =>
      refine w_iload_n dX7_judge_35 rfl ?_
      refine w_goto (tgt := 43) dX7_judge_36 (by decide) ?_
      exact k
    exact k
  exact w_iret dX7_judge_43 rfl rfl rfl (mlen hb) (Nat.le_refl 0)

set_option maxRecDepth 100000 in
set_option maxHeartbeats 1000000 in
theorem pm_X7_bar_f {l : Launch} {D : va_G} {h : PH} {M : MS} (hb : 38 < h.length) {c : Nat} (hc : c ≤ 60) (hs : msn M = nI c) {N : WS} (hW : RW N M) (hf : ¬ mfgo (mpd M) c 0 0 = -6) : PM l D YX7_barOfYears 5 [.ref 28] (mput h M) 0 0 (some (.int (-5))) (mput h M) := by
  refine pm_of2 (n0 := h.length) kb_YX7_barOfYears (mlen hb) [some (.ref 28)] (fun _ => rfl) (fun _ => (Nat.le_of_ble_eq_true rfl)) ?_
  refine w_aload_n dX7_barOfYears_0 rfl ?_
  refine w_callVr dX7_barOfYears_1 k_X7_67 (pm_X7_faultOf hb hc hs) rfl rfl (mg0 hb) rfl (Nat.le_of_ble_eq_true rfl) (Nat.le_of_ble_eq_true rfl) (Nat.le_of_ble_eq_true rfl) (rc00 (mlen hb) (Nat.le_refl 0)) ?_
  refine w_if_ge_t (tgt := 14) dX7_barOfYears_4 (by decide) (mf_nn hc hf) ?_
  refine w_bipush (v := (-5)) dX7_barOfYears_14 (by decide) ?_
  refine w_goto (tgt := 20) dX7_barOfYears_16 (by decide) ?_
  exact w_iret dX7_barOfYears_20 rfl rfl rfl (mlen hb) (Nat.le_refl 0)

set_option maxRecDepth 100000 in
set_option maxHeartbeats 1000000 in
theorem pm_X7_bar_a {l : Launch} {D : va_G} {h : PH} {M : MS} (hb : 38 < h.length) {c : Nat} (hc : c ≤ 60) (hs : msn M = nI c) {N : WS} (hW : RW N M) (hf : mfgo (mpd M) c 0 0 = -6) : PM l D YX7_barOfYears 5 [.ref 28] (mput h M) 0 0 (some (.int (if (gyR N M c).1 < 0 then 0 else -5))) (mput h (gyR N M c).2) := by
  refine pm_of2 (n0 := h.length) kb_YX7_barOfYears (mlen hb) [some (.ref 28)] (fun _ => rfl) (fun _ => (Nat.le_of_ble_eq_true rfl)) ?_
  refine w_aload_n dX7_barOfYears_0 rfl ?_
  refine w_callVr dX7_barOfYears_1 k_X7_67 (pm_X7_faultOf hb hc hs) rfl rfl (mg0 hb) rfl (Nat.le_of_ble_eq_true rfl) (Nat.le_of_ble_eq_true rfl) (Nat.le_of_ble_eq_true rfl) (rc00 (mlen hb) (Nat.le_refl 0)) ?_
  refine w_if_ge_f dX7_barOfYears_4 ⟨14, by decide⟩ (Int32.not_le.mpr (by rw [hf]; decide)) ?_
  refine w_aload_n dX7_barOfYears_7 rfl ?_
  refine w_callVr dX7_barOfYears_8 k_X7_111 (pm_X7_goYears hb hc hs hW (by assumption)) rfl rfl (mg0 hb) rfl (Nat.le_of_ble_eq_true rfl) (Nat.le_of_ble_eq_true rfl) (Nat.le_of_ble_eq_true rfl) (rc00 (mlen hb) (Nat.le_refl 0)) ?_
  refine w_if_lt (tgt := 19) dX7_barOfYears_11 (by decide) (fun c_11 => ?_) (fun c_11 => ?_)
  · skip
    refine w_iconst (v := 0) dX7_barOfYears_19 (by decide) ?_
    exact w_iret dX7_barOfYears_20 rfl (by first | exact (if_pos c_11).symm | exact (if_neg c_11).symm) rfl (mlen hb) (Nat.le_refl 0)
  · skip
    refine w_bipush (v := (-5)) dX7_barOfYears_14 (by decide) ?_
    refine w_goto (tgt := 20) dX7_barOfYears_16 (by decide) ?_
    exact w_iret dX7_barOfYears_20 rfl (by first | exact (if_pos c_11).symm | exact (if_neg c_11).symm) rfl (mlen hb) (Nat.le_refl 0)

