/-- a trial's world beside the reference's, in the middle of the years -/
def GR (N T : WS) (M : MS) (ta tp tn : Int32) : Prop := RN T (mnw M) ∧ TK N T ∧ mac M = ta ∧ mon M = tp ∧ mot M = tn ∧ (tn = -6 ∨ ∃ v, v ≤ 60 ∧ tn = nI v)
theorem ot_n {tn ta : Int32} (h : tn = -6 ∨ ∃ v, v ≤ 60 ∧ tn = nI v) : (if tn < 0 then ta else tn) = (if tn = -6 then ta else tn) := by
  rcases h with h | ⟨v, v1, v2⟩
  · rw [h, if_pos (by decide), if_pos rfl]
  · rw [v2, if_neg (nI_pos (by omega)), if_neg (nI_n6 (by omega))]
theorem hr_end (b : Nat → Int32) : rEnd b = 0 ∨ 0 < rEnd b := by unfold rEnd; split <;> decide
theorem hr_die (b : Nat → Int32) (i j : Nat) : rDie b i j = 0 ∨ 0 < rDie b i j := by
  unfold rDie
  repeat' split
  all_goals decide
theorem hr_len (b : Nat → Int32) (i j : Nat) (c : Int32) : rLen b i j c = 0 ∨ 0 < rLen b i j c := by
  unfold rLen
  repeat' split
  all_goals decide
theorem mre_tre (M : MS) (x : Int32) : mre (tre M x) = x := rfl
theorem mac_tre (M : MS) (x : Int32) : mac (tre M x) = mac M := rfl
theorem mnw_tre (M : MS) (x : Int32) : mnw (tre M x) = mnw M := rfl
theorem mon_tre (M : MS) (x : Int32) : mon (tre M x) = mon M := rfl
theorem mot_tre (M : MS) (x : Int32) : mot (tre M x) = mot M := rfl
theorem mio_tre (M : MS) (x : Int32) : mio (tre M x) = mio M := rfl
theorem mac_tnw (M : MS) (x : Nat → Int32) : mac (tnw M x) = mac M := rfl
theorem mnw_tnw (M : MS) (x : Nat → Int32) : mnw (tnw M x) = x := rfl
theorem mon_tnw (M : MS) (x : Nat → Int32) : mon (tnw M x) = mon M := rfl
theorem mot_tnw (M : MS) (x : Nat → Int32) : mot (tnw M x) = mot M := rfl
theorem mio_tnw (M : MS) (x : Nat → Int32) : mio (tnw M x) = mio M := rfl
theorem mac_tio (M : MS) (x : Int32) : mac (tio M x) = mac M := rfl
theorem mnw_tio (M : MS) (x : Int32) : mnw (tio M x) = mnw M := rfl
theorem mon_tio (M : MS) (x : Int32) : mon (tio M x) = mon M := rfl
theorem mot_tio (M : MS) (x : Int32) : mot (tio M x) = mot M := rfl
theorem mio_tio (M : MS) (x : Int32) : mio (tio M x) = x := rfl
theorem mac_ton (M : MS) (x : Int32) : mac (ton M x) = mac M := rfl
theorem mnw_ton (M : MS) (x : Int32) : mnw (ton M x) = mnw M := rfl
theorem mon_ton (M : MS) (x : Int32) : mon (ton M x) = x := rfl
theorem mot_ton (M : MS) (x : Int32) : mot (ton M x) = mot M := rfl
theorem mio_ton (M : MS) (x : Int32) : mio (ton M x) = mio M := rfl
theorem mot_gyB (M : MS) : mot (gyB M) = if mot M < 0 then (if mio M = 0 then mot M else mac M) else mot M := rfl
theorem mac_end (M : MS) : mac (mEndM M) = mac M := by unfold mEndM; split; rfl; exact mac_tnw _ _
theorem mac_die (M : MS) (i j : Nat) : mac (mDieM M i j) = mac M := by unfold mDieM; split; exact mac_tnw _ _; rfl
theorem mac_len (M : MS) (i j : Nat) (c : Int32) : mac (mLenM M i j c) = mac M := by unfold mLenM; split; exact mac_tnw _ _; rfl
theorem mac_try (N : WS) (M : MS) (i j : Nat) : mac (mTryM N M i j) = mac M := by
  unfold mTryM; split; split; rw [mac_tnw, mac_ton, mac_tio]; rw [mac_tio]; rfl
theorem gL_ok {ps pd : Nat → Int32} {c k : Nat} (hc : c ≤ 60) (hp : ∀ i, i < c → ps i = pd i) (hk : k < c) (hf : mfgo pd (c - k) k 0 = -6) : nI k + rdL ps (nI c) (nI k) = nI (k + gyL pd k) ∧ 1 ≤ gyL pd k ∧ mfgo pd (c - (k + gyL pd k)) (k + gyL pd k) 0 = -6 := by
  have e0 : sSgn ps (nI c) (nI k) = pd k := by rw [sgn_at hc hk]; exact hp k hk
  unfold rdL gyL
  rw [e0]
  rcases wf_step hc hk hf with ⟨h1, h2⟩ | ⟨h1, h2, h3, h4⟩
  · rw [if_pos h1, if_pos h1]
    exact ⟨(nI_succ k).symm, Nat.le_refl 1, h2⟩
  · have e1 : sSgn ps (nI c) (nI k + 1) = pd (k + 1) := by rw [← nI_succ, sgn_at hc h3]; exact hp _ h3
    rw [if_neg h1, if_neg h1, e1]
    rcases h4 with ⟨a1, a2, a3, a4⟩ | ⟨a0, a1, a2, a3, a4, a5⟩ | ⟨a1, a2, a3, a4⟩
    · rw [if_pos a1, if_pos a1]
      exact ⟨by rw [show (3 : Int32) = nI 3 from rfl, nI_add], by decide, a4⟩
    · rw [if_neg a0, if_neg a0, if_pos a1, if_pos a1]
      exact ⟨by rw [show (4 : Int32) = nI 4 from rfl, nI_add], by decide, a5⟩
    · rw [if_neg a1, if_neg a1, if_neg a2, if_neg a2]
      exact ⟨by rw [show (2 : Int32) = nI 2 from rfl, nI_add], by decide, a4⟩
/-- one act of the pad -/
def AcR (T : WS) (M1 : MS) (A F S C ta tp tn : Int32) : Prop := mre M1 = sHind T A F S C ∧ mac M1 = ta ∧ (mre M1 = 0 ∨ 0 < mre M1) ∧ (mre M1 = 0 → RN (sPerf T A F S C) (mnw M1) ∧ TK T (sPerf T A F S C) ∧ mon M1 = ctP T A F S tp ∧ mot (gyB M1) = ctN T A F S ta tn)
theorem ac_end {N T : WS} {M : MS} {ta tp tn F S C : Int32} (G : GR N T M ta tp tn) : AcR T (tre (mEndM (tio M 0)) (rEnd (mnw (tio M 0)))) 0 F S C ta tp tn := by
  obtain ⟨g1, g2, g3, g4, g5, g6⟩ := G
  refine ⟨?_, ?_, ?_, ?_⟩
  · rw [mre_tre, mnw_tio]; exact (h_end g1).symm
  · rw [mac_tre, mac_end, mac_tio]; exact g3
  · rw [mre_tre]; exact hr_end _
  · rw [mre_tre, mnw_tio]
    intro h0
    have hn : ¬ mnw M 95 = 99 := fun z => by unfold rEnd at h0; rw [if_pos z] at h0; exact absurd h0 (by decide)
    have eM : mEndM (tio M 0) = tnw (tio M 0) (upd (mnw M) 95 (mnw M 95 + 1)) := by
      unfold mEndM; rw [mnw_tio, if_neg hn]
    rw [eM, p_end, mnw_tre, mnw_tnw, mon_tre, mon_tnw, mon_tio, mot_gyB, mot_tre, mot_tnw, mot_tio, mio_tre, mio_tnw, mio_tio, if_pos rfl, ite_self]
    refine ⟨end_ok g1 hn, tk_end _ _, ?_, ?_⟩
    · unfold ctP; rw [if_neg (by decide)]; exact g4
    · unfold ctN; rw [if_neg (by decide)]; exact g5
theorem ac_die {N T : WS} {M : MS} {ta tp tn C : Int32} {i j : Nat} (hi : i < 8) (hj : j < 8) (G : GR N T M ta tp tn) : AcR T (tre (mDieM (tio M 0) i j) (rDie (mnw (tio M 0)) i j)) 1 (nI i) (nI j) C ta tp tn := by
  obtain ⟨g1, g2, g3, g4, g5, g6⟩ := G
  refine ⟨?_, ?_, ?_, ?_⟩
  · rw [mre_tre, mnw_tio]; exact (h_die g1 hi hj).symm
  · rw [mac_tre, mac_die, mac_tio]; exact g3
  · rw [mre_tre]; exact hr_die _ _ _
  · rw [mre_tre, mnw_tio]
    intro h0
    have eM : mDieM (tio M 0) i j = tnw (tio M 0) (aDie (mnw M) i j) := by
      unfold mDieM; rw [mnw_tio, if_pos h0]
    rw [eM, p_die, mnw_tre, mnw_tnw, mon_tre, mon_tnw, mon_tio, mot_gyB, mot_tre, mot_tnw, mot_tio, mio_tre, mio_tnw, mio_tio, if_pos rfl, ite_self]
    refine ⟨die_ok hi hj g1 h0, tk_die _ _ _, ?_, ?_⟩
    · unfold ctP; rw [if_neg (by decide)]; exact g4
    · unfold ctN; rw [if_neg (by decide)]; exact g5
theorem ac_len {N T : WS} {M : MS} {ta tp tn : Int32} {i j q : Nat} (hi : i < 8) (hj : j < 8) (hq : q ≤ 9) (G : GR N T M ta tp tn) : AcR T (tre (mLenM (tio M 0) i j (nI q)) (rLen (mnw (tio M 0)) i j (nI q))) 2 (nI i) (nI j) (nI q) ta tp tn := by
  obtain ⟨g1, g2, g3, g4, g5, g6⟩ := G
  refine ⟨?_, ?_, ?_, ?_⟩
  · rw [mre_tre, mnw_tio]; exact (h_len g1 hi hj).symm
  · rw [mac_tre, mac_len, mac_tio]; exact g3
  · rw [mre_tre]; exact hr_len _ _ _ _
  · rw [mre_tre, mnw_tio]
    intro h0
    have eM : mLenM (tio M 0) i j (nI q) = tnw (tio M 0) (aLen (mnw M) i j (nI q)) := by
      unfold mLenM; rw [mnw_tio, if_pos h0]
    rw [eM, p_len, mnw_tre, mnw_tnw, mon_tre, mon_tnw, mon_tio, mot_gyB, mot_tre, mot_tnw, mot_tio, mio_tre, mio_tnw, mio_tio, if_pos rfl, ite_self]
    refine ⟨lend_ok hi hj hq g1 h0, tk_len _ _ _ _, ?_, ?_⟩
    · unfold ctP; rw [if_neg (by decide)]; exact g4
    · unfold ctN; rw [if_neg (by decide)]; exact g5
theorem ac_try {N T : WS} {M : MS} {ta tp tn C : Int32} {i x : Nat} (hi : i < 8) (hx : x < 6) (G : GR N T M ta tp tn) : AcR T (tre (mTryM N (tio M 0) i x) (if sBit (mnw (tio M 0) 94) (nI i) then 0 else 1)) 3 (nI i) (nI x) C ta tp tn := by
  obtain ⟨g1, g2, g3, g4, g5, g6⟩ := G
  refine ⟨?_, ?_, ?_, ?_⟩
  · rw [mre_tre, mnw_tio]; exact (h_try g1 hi).symm
  · rw [mac_tre, mac_try, mac_tio]; exact g3
  · rw [mre_tre]; split <;> decide
  · rw [mre_tre, mnw_tio]
    intro h0
    have hl : sBit (mnw M 94) (nI i) = true := by
      cases q : sBit (mnw M 94) (nI i)
      · rw [q, if_neg (by decide)] at h0; exact absurd h0 (by decide)
      · rfl
    have hlet := lets_n g1 g2 hi hx
    rw [hl, Bool.true_and] at hlet
    rw [p_try]
    unfold ctP ctN
    rw [if_pos rfl, if_pos rfl, hlet]
    cases ho : aOpn N (mnw M) i x
    · have eM : mTryM N (tio M 0) i x = tio (tio M 0) 1 := by
        unfold mTryM
        rw [mnw_tio, if_pos hl, ho, if_neg (by decide)]
      have eT : sTry T (nI i) (nI x) = T := by
        unfold sTry; rw [hlet, ho, if_neg (by decide)]
      rw [eM, eT, mnw_tre, mnw_tio, mnw_tio, mon_tre, mon_tio, mon_tio, mot_gyB, mot_tre, mot_tio, mot_tio, mio_tre, mio_tio, mac_tre, mac_tio, mac_tio, if_neg (show ¬ (1 : Int32) = 0 by decide), if_neg (show ¬ false = true by decide), if_neg (show ¬ false = true by decide), g3, g5]
      exact ⟨g1, TK.rf T, g4, ot_n g6⟩
    · have eM : mTryM N (tio M 0) i x = tnw (ton (tio (tio M 0) 0) (mon M + 1)) (aTry (mnw M) i x) := by
        unfold mTryM
        rw [mnw_tio, if_pos hl, ho, if_pos rfl, mon_tio]
      rw [eM, mnw_tre, mnw_tnw, mon_tre, mon_tnw, mon_ton, mot_gyB, mot_tre, mot_tnw, mot_ton, mot_tio, mot_tio, mio_tre, mio_tnw, mio_ton, mio_tio, if_pos rfl, if_pos rfl, if_pos rfl, ite_self, g4]
      exact ⟨try_ok hi hx g1 (by rw [hlet, ho]), tk_try _ _ _, rfl, g5⟩
theorem gy_act {N T : WS} {M : MS} {ps pd : Nat → Int32} {c k : Nat} {ta tp tn kf ks kc : Int32} (hc : c ≤ 60) (hp : ∀ i, i < c → ps i = pd i) (hk : k < c) (hf : mfgo pd (c - k) k 0 = -6) (G : GR N T M ta tp tn) :
    AcR T (gyA N pd k (tio M 0)) (rdA ps (nI c) (nI k)) (rdF ps (nI c) (nI k) kf) (rdS ps (nI c) (nI k) ks) (rdC ps (nI c) (nI k) kc) ta tp tn := by
  have e0 : sSgn ps (nI c) (nI k) = pd k := by rw [sgn_at hc hk]; exact hp k hk
  unfold rdA rdF rdS rdC gyA
  rw [e0]
  rcases wf_step hc hk hf with ⟨h1, h2⟩ | ⟨h1, h2, h3, h4⟩
  · rw [if_pos h1, if_pos h1, if_pos h1, if_pos h1, if_pos h1]
    exact ac_end G
  · have e1 : sSgn ps (nI c) (nI k + 1) = pd (k + 1) := by rw [← nI_succ, sgn_at hc h3]; exact hp _ h3
    rw [if_neg h1, if_neg h1, if_neg h1, if_neg h1, if_neg h1, e1]
    obtain ⟨l1, l2⟩ := ltr_ok h2
    rcases h4 with ⟨a1, a2, a3, a4⟩ | ⟨a0, a1, a2, a3, a4, a5⟩ | ⟨a1, a2, a3, a4⟩
    · have e2 : sSgn ps (nI c) (nI k + 2) = pd (k + 2) := by rw [show nI k + 2 = nI (k + 2) by rw [show (2 : Int32) = nI 2 from rfl, nI_add], sgn_at hc a2]; exact hp _ a2
      obtain ⟨m1, m2⟩ := ltr_ok a3
      rw [if_pos a1, if_pos a1, if_pos a1, if_pos a1, e2, l1, m1]
      exact ac_die l2 m2 G
    · have hk2 : k + 2 < c := by omega
      have e2 : sSgn ps (nI c) (nI k + 2) = pd (k + 2) := by rw [show nI k + 2 = nI (k + 2) by rw [show (2 : Int32) = nI 2 from rfl, nI_add], sgn_at hc hk2]; exact hp _ hk2
      have e3 : sSgn ps (nI c) (nI k + 3) = pd (k + 3) := by rw [show nI k + 3 = nI (k + 3) by rw [show (3 : Int32) = nI 3 from rfl, nI_add], sgn_at hc a2]; exact hp _ a2
      obtain ⟨m1, m2⟩ := ltr_ok a4
      obtain ⟨v, v1, v2, v3⟩ := in_off (a := 49) (b := 57) rfl rfl (by decide) (by decide) a3
      have hd : pd (k + 2) - 48 = nI (v - 48) := by rw [v3, show (48 : Int32) = nI 48 from rfl, pk_sub (by omega)]
      rw [if_neg a0, if_neg a0, if_neg a0, if_neg a0, if_pos a1, if_pos a1, if_pos a1, if_pos a1, e2, e3, l1, m1, hd]
      exact ac_len l2 m2 (by omega) G
    · obtain ⟨m1, m2⟩ := dgt_ok a3
      rw [if_neg a1, if_neg a1, if_neg a1, if_neg a1, if_neg a2, if_neg a2, if_neg a2, if_neg a2, l1, m1]
      exact ac_try l2 m2 G
theorem ctN_rng {T : WS} {ka kf ks ta tn : Int32} {q : Nat} (hq : q ≤ 60) (ht : ta = nI q) (h : tn = -6 ∨ ∃ v, v ≤ 60 ∧ tn = nI v) : ctN T ka kf ks ta tn = -6 ∨ ∃ v, v ≤ 60 ∧ ctN T ka kf ks ta tn = nI v := by
  unfold ctN
  split
  · split
    · exact h
    · split
      · exact Or.inr ⟨q, hq, ht⟩
      · exact h
  · exact h
def gyE (N : WS) (q : FR) (r : Int32 × MS) : Prop := (q.2.2.1 = -6 ∧ q.2.2.2.1 = -6 ∧ r.1 = -6 ∧ GR N q.1 r.2 q.2.1 q.2.2.2.2.1 q.2.2.2.2.2.1) ∨ ∃ n, n ≤ 60 ∧ q.2.2.1 = nI n ∧ r.1 = nI n ∧ q.2.2.2.1 = mre r.2
theorem gy_eq {N : WS} {ps pd : Nat → Int32} {c : Nat} (hc : c ≤ 60) (hp : ∀ i, i < c → ps i = pd i) : ∀ (f f2 k : Nat) (T : WS) (M : MS) (ta tp tn ka kf ks kc : Int32) (q : Nat), c - k ≤ f → c - k ≤ f2 → k < 100 → mfgo pd (c - k) k 0 = -6 → q ≤ k → ta = nI q → GR N T M ta tp tn → gyE N (fpGo ps (nI c) f (nI k) T ta tp tn ka kf ks kc) (gyGo N pd c f2 k M)
  | 0, f2, k, T, M, ta, tp, tn, ka, kf, ks, kc, q, h1, h2, h3, h4, h5, h6, G => by
    have hk : c ≤ k := by omega
    have e : gyGo N pd c f2 k M = (-6, M) := by
      cases f2 with
      | zero => rfl
      | succ f2 => rw [gyGo, if_pos hk]
    rw [e]
    exact Or.inl ⟨rfl, rfl, rfl, G⟩
  | f + 1, f2, k, T, M, ta, tp, tn, ka, kf, ks, kc, q, h1, h2, h3, h4, h5, h6, G => by
    by_cases hk : c ≤ k
    · have e : gyGo N pd c f2 k M = (-6, M) := by
        cases f2 with
        | zero => rfl
        | succ f2 => rw [gyGo, if_pos hk]
      rw [e, fpGo, if_pos ((nI_leI (by omega) (by omega)).mpr hk)]
      exact Or.inl ⟨rfl, rfl, rfl, G⟩
    · obtain ⟨f2, rfl⟩ : ∃ z, f2 = z + 1 := ⟨f2 - 1, by omega⟩
      rw [fpGo, if_neg (fun z => hk ((nI_leI (by omega) (by omega)).mp z)), gyGo, if_neg hk]
      obtain ⟨a1, a2, a3, a4⟩ := gy_act (kf := kf) (ks := ks) (kc := kc) hc hp (Nat.not_le.mp hk) h4 G
      obtain ⟨b1, b2, b3⟩ := gL_ok hc hp (Nat.not_le.mp hk) h4
      rw [← a1]
      by_cases h0 : mre (gyA N pd k (tio M 0)) = 0
      · rw [if_pos h0, if_neg (by rw [h0]; decide), b1]
        obtain ⟨c1, c2, c3, c4⟩ := a4 h0
        have hL : gyL pd k ≤ 4 := by
          unfold gyL
          repeat' split
          all_goals decide
        refine gy_eq hc hp f f2 (k + gyL pd k) _ _ _ _ _ _ _ _ _ (q + 1) (by omega) (by omega) (by omega) b3 (by omega) (by rw [h6, nI_succ]) ⟨c1, G.2.1.tr c2, ?_, c3, c4, ctN_rng (by omega) h6 G.2.2.2.2.2⟩
        show mac (gyA N pd k (tio M 0)) + 1 = ta + 1
        rw [a2]
      · rw [if_neg h0, if_pos (a3.resolve_left h0)]
        refine Or.inr ⟨q, by omega, h6, ?_, rfl⟩
        show mac (gyA N pd k (tio M 0)) = nI q
        rw [a2, h6]
/-- two worlds that hold the same numbers -/
def WE (N N2 : WS) : Prop := wlv N2 = wlv N ∧ wyr N2 = wyr N ∧ wsg N2 = wsg N ∧ wop N2 = wop N ∧ (∀ j, j < 8 → wmk N2 j = wmk N j ∧ wpu N2 j = wpu N j ∧ wwa N2 j = wwa N j ∧ wsm N2 j = wsm N j) ∧ (∀ j, j < 64 → wde N2 j = wde N j) ∧ (∀ j, j < 6 → wwn N2 j = wwn N j ∧ whi N2 j = whi N j ∧ wco N2 j = wco N j)
theorem cpy_0 {f g : Nat → Int32} {n j : Nat} (h : j < n) : va_cpy f g 0 0 n j = f j := by
  rw [pk_cpy_in (Nat.zero_le j) (by omega), Nat.zero_add, Nat.sub_zero]
theorem WE.cpy (S N : WS) : WE N (sCpy S N) := ⟨rfl, rfl, rfl, rfl, fun j hj => ⟨cpy_0 hj, cpy_0 hj, cpy_0 hj, cpy_0 hj⟩, fun j hj => cpy_0 hj, fun j hj => ⟨cpy_0 hj, cpy_0 hj, cpy_0 hj⟩⟩
theorem RN.cg {N N2 : WS} {b b2 : Nat → Int32} (hE : WE N N2) (hb : ∀ y, y < 96 → b2 y = b y) (h : RN N b) : RN N2 b2 := by
  obtain ⟨w1, w2, w3, w4, w5, w6, w7⟩ := hE
  obtain ⟨⟨r1, r2, r3, r4, r5⟩, ⟨n1, n2, n3, n4, n5⟩, hz⟩ := h
  refine ⟨⟨fun j hj => ⟨?_, ?_, ?_⟩, fun j hj => ?_, fun j hj => ?_, ?_, ?_⟩, ⟨fun j hj => ⟨?_, ?_, ?_⟩, fun j hj => ?_, fun j hj => ⟨?_, ?_, ?_⟩, ?_, ?_⟩, fun r c hr hc hq => ?_⟩
  · rw [hb _ (by omega), (w5 j hj).1]; exact (r1 j hj).1
  · rw [hb _ (by omega), (w5 j hj).2.1]; exact (r1 j hj).2.1
  · rw [hb _ (by omega), (w5 j hj).2.2.1]; exact (r1 j hj).2.2
  · rw [hb _ (by omega), w6 j hj]; exact r2 j hj
  · rw [hb _ (by omega), (w7 j hj).2.2]; exact r3 j hj
  · rw [hb _ (by omega), w1]; exact r4
  · rw [hb _ (by omega), w2]; exact r5
  · rw [(w5 j hj).1]; exact (n1 j hj).1
  · rw [(w5 j hj).2.1]; exact (n1 j hj).2.1
  · rw [(w5 j hj).2.2.1]; exact (n1 j hj).2.2
  · rw [w6 j hj]; exact n2 j hj
  · rw [(w7 j hj).1]; exact (n3 j hj).1
  · rw [(w7 j hj).2.1]; exact (n3 j hj).2.1
  · rw [(w7 j hj).2.2]; exact (n3 j hj).2.2
  · rw [w1]; exact n4
  · rw [w2]; exact n5
  · rw [w1] at hq
    rw [w6 _ (by omega)]; exact hz r c hr hc hq
theorem WE.tk {N N2 : WS} (h : WE N N2) : TK N N2 := ⟨h.2.2.1, h.2.2.2.1, fun j hj => (h.2.2.2.2.1 j hj).2.2.2, fun j hj => ⟨(h.2.2.2.2.2.2 j hj).1, (h.2.2.2.2.2.2 j hj).2.1⟩⟩
/-- the years on the pad -/
theorem years_eq {N T : WS} {M : MS} {ps : Nat → Int32} {c : Nat} {ka kf ks kc : Int32} (hc : c ≤ 60) (hp : ∀ i, i < c → ps i = mpd M i) (hf : mfgo (mpd M) c 0 0 = -6) (h : RN N (mbk M)) : gyE N (cFol N T ps (nI c) ka kf ks kc) (gyR N M c) := by
  unfold cFol gyR
  refine gy_eq hc hp 60 c 0 (sCpy T N) (tac (mNow M) 0) 0 0 (-6) ka kf ks kc 0 (by omega) (by omega) (by decide) hf (Nat.le_refl 0) rfl ⟨?_, (WE.cpy T N).tk, rfl, rfl, rfl, Or.inl rfl⟩
  exact h.cg (WE.cpy T N) (fun y hy => asN_at (mbk M) (mnw M) 96 y hy)
