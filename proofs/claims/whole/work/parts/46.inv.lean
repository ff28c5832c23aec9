/-- class and reference, side by side -/
def Rl (N : WS) (M : MS) (ps : Nat → Int32) (pn : Int32) (mo : Nat → Int32) (im : Nat → Option Nat) (Im : Nat → WS) : Prop :=
  WR N (mbk M) (mwn M) (mhi M) (msi M) (msg M) ∧ (∃ c, c ≤ 60 ∧ pn = nI c ∧ msn M = nI c ∧ ∀ i, i < c → ps i = mpd M i) ∧ MZ mo ∧ MZ (mmo M) ∧ ∀ k, k < 2 → (im k = none ∧ mkp M k = 0) ∨ (∃ b, im k = some b ∧ mkp M k = 1 ∧ RIm (mim M) k (Im k))
def XM (N : WS) (im : Nat → Option Nat) (ps : Nat → Int32) (pn : Int32) (q : FR) (mo op : Nat → Int32) (tot : Int32) (M : MS) (u : PH) : PH := XF N im ps pn q mo op tot (mcs M ++ u)
def Inv (h : PH) (n : Nat) : Prop := ∃ (N : WS) (im : Nat → Option Nat) (ps : Nat → Int32) (pn : Int32) (q : FR) (mo op : Nat → Int32) (tot : Int32) (M : MS) (u : PH) (Im : Nat → WS), h = XM N im ps pn q mo op tot M u ∧ Rl N M ps pn mo im Im ∧ Sh im u Im ∧ n ≤ 3000 + 14 * u.length
theorem keep_tac (M : MS) (x : Int32) : gyKeep M (tac M x) := ⟨rfl, rfl, rfl, rfl, rfl, rfl, rfl, rfl, rfl, rfl, rfl⟩
theorem keep_gyR (N : WS) (M : MS) (c : Nat) : gyKeep M (gyR N M c).2 := by
  unfold gyR
  exact keep_tr (keep_mNow M) (keep_tr (keep_tac (mNow M) 0) (keep_go N (mpd M) c c 0 (tac (mNow M) 0)))
theorem bit_v : ∀ a, a < 256 → ∀ i, i < 8 → (nI a >>> (nI i &&& 31)) &&& 1 = b2i (sBit (nI a) (nI i)) := by decide +kernel
section INV
variable {l : Launch} {D : va_G} {N N2 : WS} {im : Nat → Option Nat} {ps ps2 : Nat → Int32} {pn pn2 : Int32} {q q2 : FR} {mo mo2 op op2 : Nat → Int32} {tot tot2 : Int32} {M M2 : MS} {u : PH} {Im : Nat → WS} {h : PH} {n : Nat}
theorem xm_put : mput (XM N im ps pn q mo op tot M u) M2 = XM N im ps pn q mo op tot M2 u := rfl
theorem xm_len : (XM N im ps pn q mo op tot M u).length = u.length + 39 := by
  show (mcs M ++ u).length + 28 = _
  rw [List.length_append]
  show 11 + u.length + 28 = _
  omega
theorem xm_b : 38 < (XM N im ps pn q mo op tot M u).length := by rw [xm_len]; omega
theorem Inv.len (hI : Inv h n) : h.length ≤ 57 ∧ n ≤ 3252 := by
  obtain ⟨N, im, ps, pn, q, mo, op, tot, M, u, Im, rfl, hR, hS, hn⟩ := hI
  have := hS.len
  rw [xm_len]; omega
theorem Inv.c0 (hI : Inv h n) : ∃ fs, h[0]? = some (.inr (6, fs)) := by
  obtain ⟨N, im, ps, pn, q, mo, op, tot, M, u, Im, rfl, hR, hS, hn⟩ := hI
  exact ⟨_, rfl⟩
def Sp2 (l : Launch) (D : va_G) (Yx Ym : PMth) (dx dm : Nat) (As : List Value) (h : PH) (n : Nat) (r : Value) : Prop := ∃ (h1 h2 : PH) (mc ms : Nat) (fs : List Value), PM l D Yx dx (.ref 0 :: As) h mc ms (some r) h1 ∧ h1[28]? = some (.inr (7, fs)) ∧ h1.length ≤ 100 ∧ PM l D Ym dm (.ref 28 :: As) h1 0 0 (some r) h2 ∧ Inv h2 (n + ms) ∧ mc ≤ 9 ∧ ms ≤ 126
theorem stp_mk {Yx Ym : PMth} {dx dm : Nat} {As : List Value} {r : Value} (hx : PM l D Yx dx (.ref 0 :: As) (XM N im ps pn q mo op tot M u) 0 0 (some r) (XM N2 im ps2 pn2 q2 mo2 op2 tot2 M u)) (hm : PM l D Ym dm (.ref 28 :: As) (mput (XM N2 im ps2 pn2 q2 mo2 op2 tot2 M u) M) 0 0 (some r) (mput (XM N2 im ps2 pn2 q2 mo2 op2 tot2 M u) M2)) (hR : Rl N2 M2 ps2 pn2 mo2 im Im) (hS : Sh im u Im) (hn : n ≤ 3000 + 14 * u.length) : Sp2 l D Yx Ym dx dm As (XM N im ps pn q mo op tot M u) n r := by
  have := hS.len
  refine ⟨XM N2 im ps2 pn2 q2 mo2 op2 tot2 M u, XM N2 im ps2 pn2 q2 mo2 op2 tot2 M2 u, 0, 0, _, hx, rfl, by rw [xm_len]; omega, hm, ⟨N2, im, ps2, pn2, q2, mo2, op2, tot2, M2, u, Im, rfl, hR, hS, hn⟩, by decide, by decide⟩
theorem Rl.keep (hk : gyKeep M M2) (h : Rl N M ps pn mo im Im) : Rl N M2 ps pn mo im Im := by
  obtain ⟨k1, k2, k3, k4, k5, k6, k7, k8, k9, k10, k11⟩ := hk
  unfold Rl
  rw [k1, k2, k3, k4, k5, k6, k7, k8, k10, k11]
  exact h
theorem WR.rw (h : WR N (mbk M) (mwn M) (mhi M) (msi M) (msg M)) : RW N M := h.2.1
theorem stp_birth (hI : Inv h n) (s m p : Int32) : ∃ v, Sp2 l D YX6_birth YX7_birth 3 3 [.int s, .int m, .int p] h n (.int v) := by
  obtain ⟨N, im, ps, pn, q, mo, op, tot, M, u, Im, rfl, hR, hS, hn⟩ := hI
  obtain ⟨hW, ⟨c, c1, c2, c3, c4⟩, z1, z2, him⟩ := id hR
  cases hg : (sSoul s && (sIn m 0 255 && sIn p 0 999))
  · have e : cBirR N s m p = (if sSoul s then -2 else -1) ∧ cBirN N s m p = N := by
      unfold cBirR cBirN
      cases h1 : sSoul s
      · exact ⟨rfl, rfl⟩
      · cases h2 : sIn m 0 255
        · exact ⟨rfl, rfl⟩
        · cases h3 : sIn p 0 999
          · exact ⟨rfl, rfl⟩
          · rw [h1, h2, h3] at hg; cases hg
    have hx := pm_X6_birth (l := l) (D := D) (N := N) (im := im) (ps := ps) (pn := pn) (T := q.1) (ta := q.2.1) (tb := q.2.2.1) (tw := q.2.2.2.1) (tp := q.2.2.2.2.1) (tn := q.2.2.2.2.2.1) (ka := q.2.2.2.2.2.2.1) (kf := q.2.2.2.2.2.2.2.1) (ks := q.2.2.2.2.2.2.2.2.1) (kc := q.2.2.2.2.2.2.2.2.2) (mo := mo) (op := op) (tot := tot) (t := mcs M ++ u) (s := s) (m := m) (p := p)
    rw [e.1, e.2] at hx
    exact ⟨_, stp_mk hx (pm_X7_birth_r xm_b hg) hR hS hn⟩
  · rw [Bool.and_eq_true, Bool.and_eq_true] at hg
    obtain ⟨g1, g2, g3⟩ := hg
    obtain ⟨i, hi, rfl⟩ := soul_nI g1
    obtain ⟨a, ha, rfl⟩ := in_nI 255 rfl (by decide) (by decide) g2
    obtain ⟨b, hb, rfl⟩ := in_nI 999 rfl (by decide) (by decide) g3
    have hB := birth_ok hi ha hb hW.1
    have e : cBirR N (nI i) (nI a) (nI b) = mb (mBir (mbk M) i (nI a) (nI b) 94) ∧ cBirN N (nI i) (nI a) (nI b) = sBear N (nI i) (nI a) (nI b) := by
      unfold cBirR cBirN
      rw [if_pos g1, if_pos g2, if_pos g3, if_pos g1, if_pos g2, if_pos g3]
      exact ⟨bk_lv hB, rfl⟩
    have hx := pm_X6_birth (l := l) (D := D) (N := N) (im := im) (ps := ps) (pn := pn) (T := q.1) (ta := q.2.1) (tb := q.2.2.1) (tw := q.2.2.2.1) (tp := q.2.2.2.2.1) (tn := q.2.2.2.2.2.1) (ka := q.2.2.2.2.2.2.1) (kf := q.2.2.2.2.2.2.2.1) (ks := q.2.2.2.2.2.2.2.2.1) (kc := q.2.2.2.2.2.2.2.2.2) (mo := mo) (op := op) (tot := tot) (t := mcs M ++ u) (s := nI i) (m := nI a) (p := nI b)
    rw [e.1, e.2] at hx
    exact ⟨_, stp_mk hx (pm_X7_birth_a xm_b hi g2 g3) ⟨WR.tk (N := N) (b := mbk M) (wn := mwn M) (hi := mhi M) (si := msi M) (sg := msg M) ⟨rfl, rfl, fun _ _ => rfl, fun _ _ => ⟨rfl, rfl⟩⟩ hB hW, ⟨c, c1, c2, c3, c4⟩, z1, z2, him⟩ hS hn⟩
theorem stp_box (hI : Inv h n) (x w e k : Int32) : ∃ v, Sp2 l D YX6_box YX7_box 2 3 [.int x, .int w, .int e, .int k] h n (.int v) := by
  obtain ⟨N, im, ps, pn, q, mo, op, tot, M, u, Im, rfl, hR, hS, hn⟩ := hI
  obtain ⟨hW, ⟨c, c1, c2, c3, c4⟩, z1, z2, him⟩ := id hR
  cases hg : (sBox x && (sIn w 0 255 && (sIn e 0 8 && sIn k 0 999)))
  · have ee : cBoxR N x w e k = (if sBox x then -2 else -1) ∧ cBoxN N x w e k = N := by
      unfold cBoxR cBoxN
      cases h1 : sBox x
      · exact ⟨rfl, rfl⟩
      · cases h2 : sIn w 0 255
        · exact ⟨rfl, rfl⟩
        · cases h3 : sIn e 0 8
          · exact ⟨rfl, rfl⟩
          · cases h4 : sIn k 0 999
            · exact ⟨rfl, rfl⟩
            · rw [h1, h2, h3, h4] at hg; cases hg
    have hx := pm_X6_box (l := l) (D := D) (N := N) (im := im) (ps := ps) (pn := pn) (T := q.1) (ta := q.2.1) (tb := q.2.2.1) (tw := q.2.2.2.1) (tp := q.2.2.2.2.1) (tn := q.2.2.2.2.2.1) (ka := q.2.2.2.2.2.2.1) (kf := q.2.2.2.2.2.2.2.1) (ks := q.2.2.2.2.2.2.2.2.1) (kc := q.2.2.2.2.2.2.2.2.2) (mo := mo) (op := op) (tot := tot) (t := mcs M ++ u) (x := x) (w := w) (h := e) (c := k)
    rw [ee.1, ee.2] at hx
    exact ⟨_, stp_mk hx (pm_X7_box_r xm_b hg) hR hS hn⟩
  · rw [Bool.and_eq_true, Bool.and_eq_true, Bool.and_eq_true] at hg
    obtain ⟨g1, g2, g3, g4⟩ := hg
    obtain ⟨i, hi, rfl⟩ := box_nI g1
    obtain ⟨a, ha, rfl⟩ := in_nI 255 rfl (by decide) (by decide) g2
    obtain ⟨b, hb, rfl⟩ := in_nI 8 rfl (by decide) (by decide) g3
    obtain ⟨d, hd, rfl⟩ := in_nI 999 rfl (by decide) (by decide) g4
    have hB := box_ok hi ha hb hd hW.1
    have ee : cBoxR N (nI i) (nI a) (nI b) (nI d) = mbk M (88 + i) ∧ cBoxN N (nI i) (nI a) (nI b) (nI d) = sBoxSet N (nI i) (nI a) (nI b) (nI d) := by
      unfold cBoxR cBoxN
      rw [if_pos g1, if_pos g2, if_pos g3, if_pos g4, if_pos g1, if_pos g2, if_pos g3, if_pos g4, cl8 (by omega)]
      exact ⟨(hW.1.1.2.2.1 i hi).symm, rfl⟩
    have hx := pm_X6_box (l := l) (D := D) (N := N) (im := im) (ps := ps) (pn := pn) (T := q.1) (ta := q.2.1) (tb := q.2.2.1) (tw := q.2.2.2.1) (tp := q.2.2.2.2.1) (tn := q.2.2.2.2.2.1) (ka := q.2.2.2.2.2.2.1) (kf := q.2.2.2.2.2.2.2.1) (ks := q.2.2.2.2.2.2.2.2.1) (kc := q.2.2.2.2.2.2.2.2.2) (mo := mo) (op := op) (tot := tot) (t := mcs M ++ u) (x := nI i) (w := nI a) (h := nI b) (c := nI d)
    rw [ee.1, ee.2] at hx
    refine ⟨_, stp_mk hx (pm_X7_box_a xm_b hi g2 g3 g4) ⟨⟨hB, fun j hj => ?_, hW.2.2⟩, ⟨c, c1, c2, c3, c4⟩, z1, z2, him⟩ hS hn⟩
    show upd (mwn M) i (nI a) j = upd (wwn N) (nI i).toNatClampNeg (nI a) j ∧ upd (mhi M) i (nI b) j = upd (whi N) (nI i).toNatClampNeg (nI b) j
    rw [cl8 (by omega)]
    by_cases hji : j = i
    · rw [hji, pk_us, pk_us, pk_us, pk_us]; exact ⟨rfl, rfl⟩
    · rw [pk_un hji, pk_un hji, pk_un hji, pk_un hji]; exact hW.2.1 j hj
theorem stp_say (hI : Inv h n) (g : Int32) : ∃ v, Sp2 l D YX6_say YX7_say 2 2 [.int g] h n (.int v) := by
  obtain ⟨N, im, ps, pn, q, mo, op, tot, M, u, Im, rfl, hR, hS, hn⟩ := hI
  obtain ⟨hW, ⟨c, c1, c2, c3, c4⟩, z1, z2, him⟩ := id hR
  subst c2
  have hx := pm_X6_say (l := l) (D := D) (N := N) (im := im) (ps := ps) (pn := nI c) (T := q.1) (ta := q.2.1) (tb := q.2.2.1) (tw := q.2.2.2.1) (tp := q.2.2.2.2.1) (tn := q.2.2.2.2.2.1) (ka := q.2.2.2.2.2.2.1) (kf := q.2.2.2.2.2.2.2.1) (ks := q.2.2.2.2.2.2.2.2.1) (kc := q.2.2.2.2.2.2.2.2.2) (mo := mo) (op := op) (tot := tot) (t := mcs M ++ u) (g := g) (nI_pos' (by omega))
  refine ⟨_, stp_mk hx (pm_X7_say xm_b c1 c3) ?_ hS hn⟩
  unfold mSayM cSayP cSayN
  cases hg : sIn g 33 126
  · exact hR
  · by_cases h6 : c < 60
    · have k6 : nI c < 60 := nI_lt (b := 60) h6 (by decide)
      rw [if_pos rfl, if_pos rfl, if_pos rfl, if_pos h6, if_pos k6, if_pos k6, cl8 (by omega)]
      refine ⟨hW, ⟨c + 1, by omega, (nI_succ c).symm, (nI_succ c).symm, fun i hi => ?_⟩, z1, z2, him⟩
      show upd ps c g i = upd (mpd M) c g i
      by_cases hic : i = c
      · rw [hic, pk_us, pk_us]
      · rw [pk_un hic, pk_un hic]; exact c4 i (by omega)
    · have k6 : ¬ nI c < 60 := nI_nlt (b := 60) (by omega) (by omega)
      rw [if_pos rfl, if_pos rfl, if_pos rfl, if_neg h6, if_neg k6, if_neg k6]
      exact hR
theorem stp_wipe (hI : Inv h n) : ∃ v, Sp2 l D YX6_wipe YX7_wipe 1 1 [] h n (.int v) := by
  obtain ⟨N, im, ps, pn, q, mo, op, tot, M, u, Im, rfl, hR, hS, hn⟩ := hI
  obtain ⟨hW, ⟨c, c1, c2, c3, c4⟩, z1, z2, him⟩ := id hR
  have hx := pm_X6_wipe (l := l) (D := D) (N := N) (im := im) (ps := ps) (pn := pn) (T := q.1) (ta := q.2.1) (tb := q.2.2.1) (tw := q.2.2.2.1) (tp := q.2.2.2.2.1) (tn := q.2.2.2.2.2.1) (ka := q.2.2.2.2.2.2.1) (kf := q.2.2.2.2.2.2.2.1) (ks := q.2.2.2.2.2.2.2.2.1) (kc := q.2.2.2.2.2.2.2.2.2) (mo := mo) (op := op) (tot := tot) (t := mcs M ++ u) 
  rw [c2, ← c3] at hx
  rw [c2, ← c3]
  exact ⟨_, stp_mk hx (pm_X7_wipe xm_b) ⟨hW, ⟨0, by decide, rfl, rfl, fun i hi => absurd hi (by omega)⟩, z1, z2, him⟩ hS hn⟩
theorem stp_fault (hI : Inv h n) : ∃ v, Sp2 l D YX6_fault YX7_fault 4 4 [] h n (.int v) := by
  obtain ⟨N, im, ps, pn, q, mo, op, tot, M, u, Im, rfl, hR, hS, hn⟩ := hI
  obtain ⟨hW, ⟨c, c1, c2, c3, c4⟩, z1, z2, him⟩ := id hR
  have hx := pm_X6_fault (l := l) (D := D) (N := N) (im := im) (ps := ps) (pn := pn) (T := q.1) (ta := q.2.1) (tb := q.2.2.1) (tw := q.2.2.2.1) (tp := q.2.2.2.2.1) (tn := q.2.2.2.2.2.1) (ka := q.2.2.2.2.2.2.1) (kf := q.2.2.2.2.2.2.2.1) (ks := q.2.2.2.2.2.2.2.2.1) (kc := q.2.2.2.2.2.2.2.2.2) (mo := mo) (op := op) (tot := tot) (t := mcs M ++ u) c1 c2
  rw [c2, fgo_eq c1 c4 c 0 0 0 (by omega) fr00, ← c2] at hx
  exact ⟨_, stp_mk hx (pm_X7_fault xm_b c1 c3) hR hS hn⟩
theorem stp_judge (hI : Inv h n) (w : Int32) : ∃ v, Sp2 l D YX6_judge YX7_judge 7 5 [.int w] h n (.int v) := by
  obtain ⟨N, im, ps, pn, q, mo, op, tot, M, u, Im, rfl, hR, hS, hn⟩ := hI
  obtain ⟨hW, ⟨c, c1, c2, c3, c4⟩, z1, z2, him⟩ := id hR
  have ef : fgo ps pn c 0 0 = mfgo (mpd M) c 0 0 := by rw [c2]; exact fgo_eq c1 c4 c 0 0 0 (by omega) fr00
  have hx := pm_X6_judge (l := l) (D := D) (N := N) (im := im) (ps := ps) (pn := pn) (T := q.1) (ta := q.2.1) (tb := q.2.2.1) (tw := q.2.2.2.1) (tp := q.2.2.2.2.1) (tn := q.2.2.2.2.2.1) (ka := q.2.2.2.2.2.2.1) (kf := q.2.2.2.2.2.2.2.1) (ks := q.2.2.2.2.2.2.2.2.1) (kc := q.2.2.2.2.2.2.2.2.2) (mo := mo) (op := op) (tot := tot) (t := mcs M ++ u) (w := w) c1 c2
  unfold cJuR at hx
  cases hw : sIn w 0 1
  · rw [hw, if_neg (show ¬ false = true by decide)] at hx
    exact ⟨_, stp_mk hx (pm_X7_judge_o xm_b hw) hR hS hn⟩
  · rw [hw, if_pos (show true = true from rfl), ef] at hx
    by_cases hf : mfgo (mpd M) c 0 0 = -6
    · rw [if_pos hf] at hx
      have hE := years_eq (T := q.1) (ka := q.2.2.2.2.2.2.1) (kf := q.2.2.2.2.2.2.2.1) (ks := q.2.2.2.2.2.2.2.2.1) (kc := q.2.2.2.2.2.2.2.2.2) c1 c4 hf hW.1
      rw [← c2] at hE
      have hK : Rl N (gyR N M c).2 ps pn mo im Im := hR.keep (keep_gyR N M c)
      refine ⟨_, stp_mk hx (r := .int (if w = 0 then (cFol N q.1 ps pn q.2.2.2.2.2.2.1 q.2.2.2.2.2.2.2.1 q.2.2.2.2.2.2.2.2.1 q.2.2.2.2.2.2.2.2.2).2.2.1 else (cFol N q.1 ps pn q.2.2.2.2.2.2.1 q.2.2.2.2.2.2.2.1 q.2.2.2.2.2.2.2.2.1 q.2.2.2.2.2.2.2.2.2).2.2.2.1)) (M2 := (gyR N M c).2) ?_ hK hS hn⟩
      have hm := pm_X7_judge_a (l := l) (D := D) (h := XM N im ps pn (cJuQ N q.1 ps pn c q.2.1 q.2.2.1 q.2.2.2.1 q.2.2.2.2.1 q.2.2.2.2.2.1 q.2.2.2.2.2.2.1 q.2.2.2.2.2.2.2.1 q.2.2.2.2.2.2.2.2.1 q.2.2.2.2.2.2.2.2.2 w) mo op tot M u) xm_b c1 c3 hW.rw hf hw
      have e : (if (gyR N M c).1 < 0 then (gyR N M c).1 else if w = 0 then (gyR N M c).1 else mre (gyR N M c).2) = (if w = 0 then (cFol N q.1 ps pn q.2.2.2.2.2.2.1 q.2.2.2.2.2.2.2.1 q.2.2.2.2.2.2.2.2.1 q.2.2.2.2.2.2.2.2.2).2.2.1 else (cFol N q.1 ps pn q.2.2.2.2.2.2.1 q.2.2.2.2.2.2.2.1 q.2.2.2.2.2.2.2.2.1 q.2.2.2.2.2.2.2.2.2).2.2.2.1) := by
        rcases hE with ⟨a1, a2, a3, a4⟩ | ⟨k, k1, a1, a2, a3⟩
        · rw [a1, a2, a3, if_pos (by decide), ite_self]
        · rw [a1, a2, a3, if_neg (nI_pos (by omega))]
      rw [e] at hm
      exact hm
    · rw [if_neg hf] at hx
      exact ⟨_, stp_mk hx (pm_X7_judge_f xm_b c1 c3 hW.rw hf hw) hR hS hn⟩
theorem stp_done (hI : Inv h n) : ∃ v, Sp2 l D YX6_done YX7_done 8 6 [] h n (.int v) := by
  obtain ⟨N, im, ps, pn, q, mo, op, tot, M, u, Im, rfl, hR, hS, hn⟩ := hI
  obtain ⟨hW, ⟨c, c1, c2, c3, c4⟩, z1, z2, him⟩ := id hR
  have ef : fgo ps pn c 0 0 = mfgo (mpd M) c 0 0 := by rw [c2]; exact fgo_eq c1 c4 c 0 0 0 (by omega) fr00
  have hyr : cYr N q.1 ps pn c q.2.2.2.2.2.2.1 q.2.2.2.2.2.2.2.1 q.2.2.2.2.2.2.2.2.1 q.2.2.2.2.2.2.2.2.2 = (decide (mfgo (mpd M) c 0 0 = -6) && decide ((cFol N q.1 ps pn q.2.2.2.2.2.2.1 q.2.2.2.2.2.2.2.1 q.2.2.2.2.2.2.2.2.1 q.2.2.2.2.2.2.2.2.2).2.2.1 = -6)) := by unfold cYr; rw [ef]
  have hx := pm_X6_done (l := l) (D := D) (N := N) (im := im) (ps := ps) (pn := pn) (T := q.1) (ta := q.2.1) (tb := q.2.2.1) (tw := q.2.2.2.1) (tp := q.2.2.2.2.1) (tn := q.2.2.2.2.2.1) (ka := q.2.2.2.2.2.2.1) (kf := q.2.2.2.2.2.2.2.1) (ks := q.2.2.2.2.2.2.2.2.1) (kc := q.2.2.2.2.2.2.2.2.2) (mo := mo) (op := op) (tot := tot) (t := mcs M ++ u) c1 c2
  unfold cDoR cDoN cDoP at hx
  by_cases hf : mfgo (mpd M) c 0 0 = -6
  · rw [decide_eq_true hf, Bool.true_and] at hyr
    have hE := years_eq (T := q.1) (ka := q.2.2.2.2.2.2.1) (kf := q.2.2.2.2.2.2.2.1) (ks := q.2.2.2.2.2.2.2.2.1) (kc := q.2.2.2.2.2.2.2.2.2) c1 c4 hf hW.1
    rw [← c2] at hE
    have hK : Rl N (gyR N M c).2 ps pn mo im Im := hR.keep (keep_gyR N M c)
    rcases hE with ⟨a1, a2, a3, a4⟩ | ⟨k, k1, a1, a2, a3⟩
    · rw [a1, decide_eq_true rfl] at hyr
      rw [hyr, if_pos (show true = true from rfl), if_pos (show true = true from rfl), if_pos (show true = true from rfl)] at hx
      have hm := pm_X7_done_a (l := l) (D := D) (h := XM (sCpy N (cFol N q.1 ps pn q.2.2.2.2.2.2.1 q.2.2.2.2.2.2.2.1 q.2.2.2.2.2.2.2.2.1 q.2.2.2.2.2.2.2.2.2).1) im ps 0 (cYq N q.1 ps pn c q.2.1 q.2.2.1 q.2.2.2.1 q.2.2.2.2.1 q.2.2.2.2.2.1 q.2.2.2.2.2.2.1 q.2.2.2.2.2.2.2.1 q.2.2.2.2.2.2.2.2.1 q.2.2.2.2.2.2.2.2.2) mo op tot M u) xm_b c1 c3 hW.rw hf (by rw [a3]; decide)
      rw [a4.2.2.1] at hm
      refine ⟨_, stp_mk hx hm ⟨?_, ⟨0, by decide, rfl, rfl, fun i hi => absurd hi (by omega)⟩, z1, hK.2.2.2.1, hK.2.2.2.2⟩ hS hn⟩
      refine WR.cg (WE.cpy N _) (fun y hy => ?_) (fun y hy => ⟨rfl, rfl⟩) (fun y hy => rfl) rfl (hK.1.tk a4.2.1 a4.1)
      exact asN_at _ _ 96 y hy
    · rw [a1, decide_eq_false (nI_n6 (by omega))] at hyr
      rw [hyr, if_neg (show ¬ false = true by decide), if_neg (show ¬ false = true by decide), if_neg (show ¬ false = true by decide)] at hx
      exact ⟨_, stp_mk hx (pm_X7_done_n xm_b c1 c3 hW.rw hf (by rw [a2]; exact nI_pos (by omega))) hK hS hn⟩
  · rw [decide_eq_false hf, Bool.false_and] at hyr
    rw [hyr, if_neg (show ¬ false = true by decide), if_neg (show ¬ false = true by decide), if_neg (show ¬ false = true by decide)] at hx
    exact ⟨_, stp_mk hx (pm_X7_done_f xm_b c1 c3 hW.rw hf) hR hS hn⟩
theorem stp_behind (hI : Inv h n) (s w : Int32) : ∃ v, Sp2 l D YX6_behind YX7_behind 8 6 [.int s, .int w] h n (.int v) := by
  obtain ⟨N, im, ps, pn, q, mo, op, tot, M, u, Im, rfl, hR, hS, hn⟩ := hI
  obtain ⟨hW, ⟨c, c1, c2, c3, c4⟩, z1, z2, him⟩ := id hR
  have ef : fgo ps pn c 0 0 = mfgo (mpd M) c 0 0 := by rw [c2]; exact fgo_eq c1 c4 c 0 0 0 (by omega) fr00
  have hyr : cYr N q.1 ps pn c q.2.2.2.2.2.2.1 q.2.2.2.2.2.2.2.1 q.2.2.2.2.2.2.2.2.1 q.2.2.2.2.2.2.2.2.2 = (decide (mfgo (mpd M) c 0 0 = -6) && decide ((cFol N q.1 ps pn q.2.2.2.2.2.2.1 q.2.2.2.2.2.2.2.1 q.2.2.2.2.2.2.2.2.1 q.2.2.2.2.2.2.2.2.2).2.2.1 = -6)) := by unfold cYr; rw [ef]
  have hx := pm_X6_behind (l := l) (D := D) (N := N) (im := im) (ps := ps) (pn := pn) (T := q.1) (ta := q.2.1) (tb := q.2.2.1) (tw := q.2.2.2.1) (tp := q.2.2.2.2.1) (tn := q.2.2.2.2.2.1) (ka := q.2.2.2.2.2.2.1) (kf := q.2.2.2.2.2.2.2.1) (ks := q.2.2.2.2.2.2.2.2.1) (kc := q.2.2.2.2.2.2.2.2.2) (mo := mo) (op := op) (tot := tot) (t := mcs M ++ u) (s := s) (w := w) c1 c2
  unfold cBeR at hx
  cases h1 : sSoul s
  · rw [h1, if_neg (show ¬ false = true by decide)] at hx
    have hm := pm_X7_behind_r (l := l) (D := D) (h := XM N im ps pn (cBeQ N q.1 ps pn c q.2.1 q.2.2.1 q.2.2.2.1 q.2.2.2.2.1 q.2.2.2.2.2.1 q.2.2.2.2.2.2.1 q.2.2.2.2.2.2.2.1 q.2.2.2.2.2.2.2.2.1 q.2.2.2.2.2.2.2.2.2 s w) mo op tot M u) (M := M) xm_b (s := s) (w := w) (by rw [h1]; rfl)
    rw [h1, if_neg (show ¬ false = true by decide)] at hm
    exact ⟨_, stp_mk hx hm hR hS hn⟩
  · rw [h1, if_pos (show true = true from rfl)] at hx
    cases h2 : sIn w 0 3
    · rw [h2, if_neg (show ¬ false = true by decide)] at hx
      have hm := pm_X7_behind_r (l := l) (D := D) (h := XM N im ps pn (cBeQ N q.1 ps pn c q.2.1 q.2.2.1 q.2.2.2.1 q.2.2.2.2.1 q.2.2.2.2.2.1 q.2.2.2.2.2.2.1 q.2.2.2.2.2.2.2.1 q.2.2.2.2.2.2.2.2.1 q.2.2.2.2.2.2.2.2.2 s w) mo op tot M u) (M := M) xm_b (s := s) (w := w) (by rw [h1, h2]; rfl)
      rw [h1, if_pos (show true = true from rfl)] at hm
      exact ⟨_, stp_mk hx hm hR hS hn⟩
    · rw [h2, if_pos (show true = true from rfl)] at hx
      by_cases hf : mfgo (mpd M) c 0 0 = -6
      · rw [decide_eq_true hf, Bool.true_and] at hyr
        have hE := years_eq (T := q.1) (ka := q.2.2.2.2.2.2.1) (kf := q.2.2.2.2.2.2.2.1) (ks := q.2.2.2.2.2.2.2.2.1) (kc := q.2.2.2.2.2.2.2.2.2) c1 c4 hf hW.1
        rw [← c2] at hE
        have hK : Rl N (gyR N M c).2 ps pn mo im Im := hR.keep (keep_gyR N M c)
        rcases hE with ⟨a1, a2, a3, a4⟩ | ⟨k, k1, a1, a2, a3⟩
        · rw [a1, decide_eq_true rfl] at hyr
          rw [hyr, if_pos (show true = true from rfl)] at hx
          obtain ⟨i, hi, rfl⟩ := soul_nI h1
          have hm := pm_X7_behind_a (l := l) (D := D) (h := XM N im ps pn (cBeQ N q.1 ps pn c q.2.1 q.2.2.1 q.2.2.2.1 q.2.2.2.2.1 q.2.2.2.2.2.1 q.2.2.2.2.2.2.1 q.2.2.2.2.2.2.2.1 q.2.2.2.2.2.2.2.2.1 q.2.2.2.2.2.2.2.2.2 (nI i) w) mo op tot M u) xm_b c1 c3 hW.rw hf (by rw [a3]; decide) hi h2
          have hr := a4.1
          have e : mBeV (mnw (gyR N M c).2) i w = (if w = 0 then b2i (sLiv (cFol N q.1 ps pn q.2.2.2.2.2.2.1 q.2.2.2.2.2.2.2.1 q.2.2.2.2.2.2.2.2.1 q.2.2.2.2.2.2.2.2.2).1 (nI i)) else if w = 1 then wmk (cFol N q.1 ps pn q.2.2.2.2.2.2.1 q.2.2.2.2.2.2.2.1 q.2.2.2.2.2.2.2.2.1 q.2.2.2.2.2.2.2.2.2).1 (nI i).toNatClampNeg else if w = 2 then wpu (cFol N q.1 ps pn q.2.2.2.2.2.2.1 q.2.2.2.2.2.2.2.1 q.2.2.2.2.2.2.2.2.1 q.2.2.2.2.2.2.2.2.2).1 (nI i).toNatClampNeg else wwa (cFol N q.1 ps pn q.2.2.2.2.2.2.1 q.2.2.2.2.2.2.2.1 q.2.2.2.2.2.2.2.2.1 q.2.2.2.2.2.2.2.2.2).1 (nI i).toNatClampNeg) := by
            unfold mBeV
            rw [liv_n hr hi, cl8 (show i < 1000 by omega), (hr.1.1 i hi).1, (hr.1.1 i hi).2.1, (hr.1.1 i hi).2.2]
            by_cases w0 : w = 0
            · rw [if_pos w0, if_pos w0]
              obtain ⟨a, ha, ea⟩ := hr.2.1.2.2.2.1
              rw [hr.1.2.2.2.1, ea]
              exact bit_v a ha i hi
            · rw [if_neg w0, if_neg w0]
          rw [e] at hm
          exact ⟨_, stp_mk hx hm hK hS hn⟩
        · rw [a1, decide_eq_false (nI_n6 (by omega))] at hyr
          rw [hyr, if_neg (show ¬ false = true by decide)] at hx
          exact ⟨_, stp_mk hx (pm_X7_behind_n xm_b c1 c3 hW.rw hf (by rw [a2]; exact nI_pos (by omega)) h1 h2) hK hS hn⟩
      · rw [decide_eq_false hf, Bool.false_and] at hyr
        rw [hyr, if_neg (show ¬ false = true by decide)] at hx
        exact ⟨_, stp_mk hx (pm_X7_behind_f xm_b c1 c3 hW.rw hf h1 h2) hR hS hn⟩
theorem stp_then (hI : Inv h n) (w : Int32) : ∃ v, Sp2 l D YX6_then YX7_then 8 6 [.int w] h n (.int v) := by
  obtain ⟨N, im, ps, pn, q, mo, op, tot, M, u, Im, rfl, hR, hS, hn⟩ := hI
  obtain ⟨hW, ⟨c, c1, c2, c3, c4⟩, z1, z2, him⟩ := id hR
  have ef : fgo ps pn c 0 0 = mfgo (mpd M) c 0 0 := by rw [c2]; exact fgo_eq c1 c4 c 0 0 0 (by omega) fr00
  have hyr : cYr N q.1 ps pn c q.2.2.2.2.2.2.1 q.2.2.2.2.2.2.2.1 q.2.2.2.2.2.2.2.2.1 q.2.2.2.2.2.2.2.2.2 = (decide (mfgo (mpd M) c 0 0 = -6) && decide ((cFol N q.1 ps pn q.2.2.2.2.2.2.1 q.2.2.2.2.2.2.2.1 q.2.2.2.2.2.2.2.2.1 q.2.2.2.2.2.2.2.2.2).2.2.1 = -6)) := by unfold cYr; rw [ef]
  have hx := pm_X6_then (l := l) (D := D) (N := N) (im := im) (ps := ps) (pn := pn) (T := q.1) (ta := q.2.1) (tb := q.2.2.1) (tw := q.2.2.2.1) (tp := q.2.2.2.2.1) (tn := q.2.2.2.2.2.1) (ka := q.2.2.2.2.2.2.1) (kf := q.2.2.2.2.2.2.2.1) (ks := q.2.2.2.2.2.2.2.2.1) (kc := q.2.2.2.2.2.2.2.2.2) (mo := mo) (op := op) (tot := tot) (t := mcs M ++ u) (w := w) c1 c2
  unfold cThR at hx
  cases h2 : sIn w 0 3
  · rw [h2, if_neg (show ¬ false = true by decide)] at hx
    exact ⟨_, stp_mk hx (pm_X7_then_r xm_b h2) hR hS hn⟩
  · rw [h2, if_pos (show true = true from rfl)] at hx
    by_cases hf : mfgo (mpd M) c 0 0 = -6
    · rw [decide_eq_true hf, Bool.true_and] at hyr
      have hE := years_eq (T := q.1) (ka := q.2.2.2.2.2.2.1) (kf := q.2.2.2.2.2.2.2.1) (ks := q.2.2.2.2.2.2.2.2.1) (kc := q.2.2.2.2.2.2.2.2.2) c1 c4 hf hW.1
      rw [← c2] at hE
      have hK : Rl N (gyR N M c).2 ps pn mo im Im := hR.keep (keep_gyR N M c)
      rcases hE with ⟨a1, a2, a3, a4⟩ | ⟨k, k1, a1, a2, a3⟩
      · rw [a1, decide_eq_true rfl] at hyr
        rw [hyr, if_pos (show true = true from rfl)] at hx
        have hm := pm_X7_then_a (l := l) (D := D) (h := XM N im ps pn (cThQ N q.1 ps pn c q.2.1 q.2.2.1 q.2.2.2.1 q.2.2.2.2.1 q.2.2.2.2.2.1 q.2.2.2.2.2.2.1 q.2.2.2.2.2.2.2.1 q.2.2.2.2.2.2.2.2.1 q.2.2.2.2.2.2.2.2.2 w) mo op tot M u) xm_b c1 c3 hW.rw hf (by rw [a3]; decide) h2
        unfold mThV at hm
        rw [a4.1.1.2.2.2.1, a4.1.1.2.2.2.2, a4.2.2.2.1, a4.2.2.2.2.1] at hm
        exact ⟨_, stp_mk hx hm hK hS hn⟩
      · rw [a1, decide_eq_false (nI_n6 (by omega))] at hyr
        rw [hyr, if_neg (show ¬ false = true by decide)] at hx
        exact ⟨_, stp_mk hx (pm_X7_then_n xm_b c1 c3 hW.rw hf (by rw [a2]; exact nI_pos (by omega)) h2) hK hS hn⟩
    · rw [decide_eq_false hf, Bool.false_and] at hyr
      rw [hyr, if_neg (show ¬ false = true by decide)] at hx
      exact ⟨_, stp_mk hx (pm_X7_then_f xm_b c1 c3 hW.rw hf h2) hR hS hn⟩
theorem stp_opens (hI : Inv h n) (x : Int32) : ∃ v, Sp2 l D YX6_opens YX7_opens 5 5 [.int x] h n (.int v) := by
  obtain ⟨N, im, ps, pn, q, mo, op, tot, M, u, Im, rfl, hR, hS, hn⟩ := hI
  obtain ⟨hW, ⟨c, c1, c2, c3, c4⟩, z1, z2, him⟩ := id hR
  have hx := pm_X6_opens (l := l) (D := D) (N := N) (im := im) (ps := ps) (pn := pn) (T := q.1) (ta := q.2.1) (tb := q.2.2.1) (tw := q.2.2.2.1) (tp := q.2.2.2.2.1) (tn := q.2.2.2.2.2.1) (ka := q.2.2.2.2.2.2.1) (kf := q.2.2.2.2.2.2.2.1) (ks := q.2.2.2.2.2.2.2.2.1) (kc := q.2.2.2.2.2.2.2.2.2) (mo := mo) (op := op) (tot := tot) (t := mcs M ++ u) (x := x)
  exact ⟨_, stp_mk hx (pm_X7_opens xm_b hW.1.1 hW.rw hW.1.2.1) hR hS hn⟩
theorem stp_two (hI : Inv h n) : ∃ v, Sp2 l D YX6_two YX7_two 5 5 [] h n (.int v) := by
  obtain ⟨N, im, ps, pn, q, mo, op, tot, M, u, Im, rfl, hR, hS, hn⟩ := hI
  obtain ⟨hW, ⟨c, c1, c2, c3, c4⟩, z1, z2, him⟩ := id hR
  have hx := pm_X6_two (l := l) (D := D) (N := N) (im := im) (ps := ps) (pn := pn) (T := q.1) (ta := q.2.1) (tb := q.2.2.1) (tw := q.2.2.2.1) (tp := q.2.2.2.2.1) (tn := q.2.2.2.2.2.1) (ka := q.2.2.2.2.2.2.1) (kf := q.2.2.2.2.2.2.2.1) (ks := q.2.2.2.2.2.2.2.2.1) (kc := q.2.2.2.2.2.2.2.2.2) (mo := mo) (op := op) (tot := tot) (t := mcs M ++ u) 
  exact ⟨_, stp_mk hx (pm_X7_two xm_b hW.1.1 hW.rw hW.1.2.1) hR hS hn⟩
theorem stp_chain (hI : Inv h n) (s w : Int32) : ∃ v, Sp2 l D YX6_chain YX7_chain 2 3 [.int s, .int w] h n (.int v) := by
  obtain ⟨N, im, ps, pn, q, mo, op, tot, M, u, Im, rfl, hR, hS, hn⟩ := hI
  obtain ⟨hW, ⟨c, c1, c2, c3, c4⟩, z1, z2, him⟩ := id hR
  have hx := pm_X6_chain (l := l) (D := D) (N := N) (im := im) (ps := ps) (pn := pn) (T := q.1) (ta := q.2.1) (tb := q.2.2.1) (tw := q.2.2.2.1) (tp := q.2.2.2.2.1) (tn := q.2.2.2.2.2.1) (ka := q.2.2.2.2.2.2.1) (kf := q.2.2.2.2.2.2.2.1) (ks := q.2.2.2.2.2.2.2.2.1) (kc := q.2.2.2.2.2.2.2.2.2) (mo := mo) (op := op) (tot := tot) (t := mcs M ++ u) (s := s) (w := w)
  exact ⟨_, stp_mk hx (pm_X7_chain xm_b hW.1.1 hW.1.2.1) hR hS hn⟩
theorem stp_owes (hI : Inv h n) (s o : Int32) : ∃ v, Sp2 l D YX6_owes YX7_owes 2 3 [.int s, .int o] h n (.int v) := by
  obtain ⟨N, im, ps, pn, q, mo, op, tot, M, u, Im, rfl, hR, hS, hn⟩ := hI
  obtain ⟨hW, ⟨c, c1, c2, c3, c4⟩, z1, z2, him⟩ := id hR
  have hx := pm_X6_owes (l := l) (D := D) (N := N) (im := im) (ps := ps) (pn := pn) (T := q.1) (ta := q.2.1) (tb := q.2.2.1) (tw := q.2.2.2.1) (tp := q.2.2.2.2.1) (tn := q.2.2.2.2.2.1) (ka := q.2.2.2.2.2.2.1) (kf := q.2.2.2.2.2.2.2.1) (ks := q.2.2.2.2.2.2.2.2.1) (kc := q.2.2.2.2.2.2.2.2.2) (mo := mo) (op := op) (tot := tot) (t := mcs M ++ u) (s := s) (o := o)
  exact ⟨_, stp_mk hx (pm_X7_owes xm_b hW.1.1) hR hS hn⟩
theorem stp_netted (hI : Inv h n) (s : Int32) : ∃ v, Sp2 l D YX6_netted YX7_netted 2 3 [.int s] h n (.int v) := by
  obtain ⟨N, im, ps, pn, q, mo, op, tot, M, u, Im, rfl, hR, hS, hn⟩ := hI
  obtain ⟨hW, ⟨c, c1, c2, c3, c4⟩, z1, z2, him⟩ := id hR
  have hx := pm_X6_netted (l := l) (D := D) (N := N) (im := im) (ps := ps) (pn := pn) (T := q.1) (ta := q.2.1) (tb := q.2.2.1) (tw := q.2.2.2.1) (tp := q.2.2.2.2.1) (tn := q.2.2.2.2.2.1) (ka := q.2.2.2.2.2.2.1) (kf := q.2.2.2.2.2.2.2.1) (ks := q.2.2.2.2.2.2.2.2.1) (kc := q.2.2.2.2.2.2.2.2.2) (mo := mo) (op := op) (tot := tot) (t := mcs M ++ u) (s := s)
  exact ⟨_, stp_mk hx (pm_X7_netted xm_b hW.1.1) hR hS hn⟩
theorem stp_rings (hI : Inv h n) : ∃ v, Sp2 l D YX6_rings YX7_rings 4 2 [] h n (.int v) := by
  obtain ⟨N, im, ps, pn, q, mo, op, tot, M, u, Im, rfl, hR, hS, hn⟩ := hI
  obtain ⟨hW, ⟨c, c1, c2, c3, c4⟩, z1, z2, him⟩ := id hR
  have hx := pm_X6_rings (l := l) (D := D) (N := N) (im := im) (ps := ps) (pn := pn) (T := q.1) (ta := q.2.1) (tb := q.2.2.1) (tw := q.2.2.2.1) (tp := q.2.2.2.2.1) (tn := q.2.2.2.2.2.1) (ka := q.2.2.2.2.2.2.1) (kf := q.2.2.2.2.2.2.2.1) (ks := q.2.2.2.2.2.2.2.2.1) (kc := q.2.2.2.2.2.2.2.2.2) (mo := mo) (op := op) (tot := tot) (t := mcs M ++ u) 
  rw [rings_eq] at hx
  exact ⟨_, stp_mk hx (pm_X7_rings xm_b hW.1.1) hR hS hn⟩
theorem stp_note (hI : Inv h n) (s w : Int32) : ∃ v, Sp2 l D YX6_note YX7_note 5 4 [.int s, .int w] h n (.int v) := by
  obtain ⟨N, im, ps, pn, q, mo, op, tot, M, u, Im, rfl, hR, hS, hn⟩ := hI
  obtain ⟨hW, ⟨c, c1, c2, c3, c4⟩, z1, z2, him⟩ := id hR
  have hx := pm_X6_note (l := l) (D := D) (N := N) (im := im) (ps := ps) (pn := pn) (T := q.1) (ta := q.2.1) (tb := q.2.2.1) (tw := q.2.2.2.1) (tp := q.2.2.2.2.1) (tn := q.2.2.2.2.2.1) (ka := q.2.2.2.2.2.2.1) (kf := q.2.2.2.2.2.2.2.1) (ks := q.2.2.2.2.2.2.2.2.1) (kc := q.2.2.2.2.2.2.2.2.2) (mo := mo) (op := op) (tot := tot) (t := mcs M ++ u) (s := s) (w := w)
  cases hg : (sLiv N s && sIn w 0 1)
  · rw [note_r hg] at hx
    exact ⟨_, stp_mk hx (pm_X7_note_r xm_b hW.1.1 hg) hR hS hn⟩
  · rw [Bool.and_eq_true] at hg
    obtain ⟨i, hi, rfl⟩ := vp_in_of (vin_liv hg.1) (by decide)
    rw [note_eq hg.1 hg.2] at hx
    exact ⟨_, stp_mk hx (pm_X7_note_a xm_b hW.1.1 hW.rw hW.1.2.1 hi hg.1 hg.2) hR hS hn⟩
theorem stp_only (hI : Inv h n) (x s : Int32) : ∃ v, Sp2 l D YX6_only YX7_only 3 4 [.int x, .int s] h n (.int v) := by
  obtain ⟨N, im, ps, pn, q, mo, op, tot, M, u, Im, rfl, hR, hS, hn⟩ := hI
  obtain ⟨hW, ⟨c, c1, c2, c3, c4⟩, z1, z2, him⟩ := id hR
  have hx := pm_X6_only (l := l) (D := D) (N := N) (im := im) (ps := ps) (pn := pn) (T := q.1) (ta := q.2.1) (tb := q.2.2.1) (tw := q.2.2.2.1) (tp := q.2.2.2.2.1) (tn := q.2.2.2.2.2.1) (ka := q.2.2.2.2.2.2.1) (kf := q.2.2.2.2.2.2.2.1) (ks := q.2.2.2.2.2.2.2.2.1) (kc := q.2.2.2.2.2.2.2.2.2) (mo := mo) (op := op) (tot := tot) (t := mcs M ++ u) (x := x) (s := s)
  cases hg : (sBox x && sLiv N s)
  · rw [(onr hg).1] at hx
    exact ⟨_, stp_mk hx (pm_X7_only_r xm_b hW.1.1 hg) hR hS hn⟩
  · rw [Bool.and_eq_true] at hg
    obtain ⟨i, hi, rfl⟩ := vp_in_of (vin_liv hg.2) (by decide)
    obtain ⟨j, hj, rfl⟩ := box_nI hg.1
    rw [only_eq hW.1.2.1 hj hi hg.2] at hx
    exact ⟨_, stp_mk hx (pm_X7_only_a xm_b hW.1.1 hW.rw hW.1.2.1 hj hi hg.2) hR hS hn⟩
theorem stp_share (hI : Inv h n) (x s : Int32) : ∃ v, Sp2 l D YX6_share YX7_share 4 5 [.int x, .int s] h n (.int v) := by
  obtain ⟨N, im, ps, pn, q, mo, op, tot, M, u, Im, rfl, hR, hS, hn⟩ := hI
  obtain ⟨hW, ⟨c, c1, c2, c3, c4⟩, z1, z2, him⟩ := id hR
  have hx := pm_X6_share (l := l) (D := D) (N := N) (im := im) (ps := ps) (pn := pn) (T := q.1) (ta := q.2.1) (tb := q.2.2.1) (tw := q.2.2.2.1) (tp := q.2.2.2.2.1) (tn := q.2.2.2.2.2.1) (ka := q.2.2.2.2.2.2.1) (kf := q.2.2.2.2.2.2.2.1) (ks := q.2.2.2.2.2.2.2.2.1) (kc := q.2.2.2.2.2.2.2.2.2) (mo := mo) (op := op) (tot := tot) (t := mcs M ++ u) (x := x) (s := s)
  cases hg : (sBox x && sLiv N s)
  · rw [(onr hg).2] at hx
    exact ⟨_, stp_mk hx (pm_X7_share_r xm_b hW.1.1 hg) hR hS hn⟩
  · rw [Bool.and_eq_true] at hg
    obtain ⟨i, hi, rfl⟩ := vp_in_of (vin_liv hg.2) (by decide)
    obtain ⟨j, hj, rfl⟩ := box_nI hg.1
    rw [share_eq hW.1.2.1 hj hi hg.2] at hx
    exact ⟨_, stp_mk hx (pm_X7_share_a xm_b hW.1.1 hW.rw hW.1.2.1 hj hi hg.2 (share_h0 hW.1.2.1 hj hi hg.2)) hR hS hn⟩
theorem stp_match (hI : Inv h n) (s : Int32) : ∃ v, Sp2 l D YX6_match YX7_match 7 5 [.int s] h n (.int v) := by
  obtain ⟨N, im, ps, pn, q, mo, op, tot, M, u, Im, rfl, hR, hS, hn⟩ := hI
  obtain ⟨hW, ⟨c, c1, c2, c3, c4⟩, z1, z2, him⟩ := id hR
  have hx := pm_X6_match (l := l) (D := D) (N := N) (im := im) (ps := ps) (pn := pn) (T := q.1) (ta := q.2.1) (tb := q.2.2.1) (tw := q.2.2.2.1) (tp := q.2.2.2.2.1) (tn := q.2.2.2.2.2.1) (ka := q.2.2.2.2.2.2.1) (kf := q.2.2.2.2.2.2.2.1) (ks := q.2.2.2.2.2.2.2.2.1) (kc := q.2.2.2.2.2.2.2.2.2) (mo := mo) (op := op) (tot := tot) (t := mcs M ++ u) (s := s)
  by_cases h1 : s = -1
  · subst h1
    rw [(match_1 z1 z2).1, (match_1 z1 z2).2] at hx
    exact ⟨_, stp_mk hx (pm_X7_match_1 xm_b hW.1.1 hW.rw hW.1.2.1) ⟨hW, ⟨c, c1, c2, c3, c4⟩, z1.wg, z2.lm, him⟩ hS hn⟩
  · cases hg : sLiv N s
    · rw [(match_r h1 hg).1, (match_r h1 hg).2] at hx
      exact ⟨_, stp_mk hx (pm_X7_match_r xm_b hW.1.1 h1 hg) hR hS hn⟩
    · obtain ⟨i, hi, rfl⟩ := vp_in_of (vin_liv hg) (by decide)
      rw [(match_a z1 z2 hi hg).1, (match_a z1 z2 hi hg).2] at hx
      exact ⟨_, stp_mk hx (pm_X7_match_a xm_b hW.1.1 hW.rw hW.1.2.1 hi hg) ⟨hW, ⟨c, c1, c2, c3, c4⟩, z1.wg, z2.lm, him⟩ hS hn⟩
theorem stp_seen (hI : Inv h n) (m o : Int32) : ∃ v, Sp2 l D YX6_seen YX7_seen 2 2 [.int m, .int o] h n (.int v) := by
  obtain ⟨N, im, ps, pn, q, mo, op, tot, M, u, Im, rfl, hR, hS, hn⟩ := hI
  obtain ⟨hW, ⟨c, c1, c2, c3, c4⟩, z1, z2, him⟩ := id hR
  obtain ⟨hN, hB, g, hSR⟩ := id hW
  obtain ⟨g1, g2, g3, g4, g5, g6⟩ := id hSR
  have hx := pm_X6_seen (l := l) (D := D) (N := N) (im := im) (ps := ps) (pn := pn) (T := q.1) (ta := q.2.1) (tb := q.2.2.1) (tw := q.2.2.2.1) (tp := q.2.2.2.2.1) (tn := q.2.2.2.2.2.1) (ka := q.2.2.2.2.2.2.1) (kf := q.2.2.2.2.2.2.2.1) (ks := q.2.2.2.2.2.2.2.2.1) (kc := q.2.2.2.2.2.2.2.2.2) (mo := mo) (op := op) (tot := tot) (t := mcs M ++ u) (q := m) (o := o) (by rw [g2]; exact nI_pos' (by omega))
  have hm := pm_X7_seen (l := l) (D := D) (h := XM (cSeeN N m o) im ps pn q mo op tot M u) xm_b g1 g3 (q := m) (o := o)
  have eR : cSeeR N m o = mSeeR g m := by
    unfold cSeeR mSeeR sAddS
    rw [g2]
    by_cases h8 : g < 8
    · have k8 : nI g < 8 := nI_lt (b := 8) h8 (by decide)
      rw [if_pos k8, if_pos k8, if_pos h8]
      show (if sIn m 0 255 = true then nI g + 1 else -2) = _
      rfl
    · have k8 : ¬ nI g < 8 := nI_nlt (b := 8) (by omega) (by omega)
      rw [if_neg k8, if_neg h8]
  rw [eR] at hx
  refine ⟨_, stp_mk hx hm ?_ hS hn⟩
  unfold mSeeM cSeeN
  cases hg : sIn m 0 255
  · exact hR
  · obtain ⟨a, ha, rfl⟩ := in_nI 255 rfl (by decide) (by decide) hg
    rw [if_pos rfl, if_pos rfl]
    by_cases h8 : g < 8
    · rw [if_pos h8]
      refine ⟨seen_ok ha hN hB (by rw [← g3]; exact hSR) h8, ⟨c, c1, c2, c3, c4⟩, z1, z2, him⟩
    · rw [if_neg h8]
      have e : sAddS N (nI a) o = N := by
        have k8 : ¬ nI g < 8 := nI_nlt (b := 8) (by omega) (by omega)
        unfold sAddS; rw [g2, if_neg k8]
      rw [e]; exact hR
theorem stp_forget (hI : Inv h n) : ∃ v, Sp2 l D YX6_forget YX7_forget 1 1 [] h n (.int v) := by
  obtain ⟨N, im, ps, pn, q, mo, op, tot, M, u, Im, rfl, hR, hS, hn⟩ := hI
  obtain ⟨hW, ⟨c, c1, c2, c3, c4⟩, z1, z2, him⟩ := id hR
  obtain ⟨hN, hB, g, hSR⟩ := id hW
  have hx := pm_X6_forget (l := l) (D := D) (N := N) (im := im) (ps := ps) (pn := pn) (T := q.1) (ta := q.2.1) (tb := q.2.2.1) (tw := q.2.2.2.1) (tp := q.2.2.2.2.1) (tn := q.2.2.2.2.2.1) (ka := q.2.2.2.2.2.2.1) (kf := q.2.2.2.2.2.2.2.1) (ks := q.2.2.2.2.2.2.2.2.1) (kc := q.2.2.2.2.2.2.2.2.2) (mo := mo) (op := op) (tot := tot) (t := mcs M ++ u) 
  rw [hSR.2.1, ← hSR.2.2.1] at hx
  exact ⟨_, stp_mk hx (pm_X7_forget xm_b) ⟨forget_ok hW, ⟨c, c1, c2, c3, c4⟩, z1, z2, him⟩ hS hn⟩
theorem stp_laws (hI : Inv h n) (i : Int32) : ∃ v, Sp2 l D YX6_laws YX7_laws 5 3 [.int i] h n (.int v) := by
  obtain ⟨N, im, ps, pn, q, mo, op, tot, M, u, Im, rfl, hR, hS, hn⟩ := hI
  obtain ⟨hW, ⟨c, c1, c2, c3, c4⟩, z1, z2, him⟩ := id hR
  obtain ⟨hN, hB, g, g1, g2, g3, g4, g5, g6⟩ := id hW
  have hx := pm_X6_laws (l := l) (D := D) (N := N) (im := im) (ps := ps) (pn := pn) (T := q.1) (ta := q.2.1) (tb := q.2.2.1) (tw := q.2.2.2.1) (tp := q.2.2.2.2.1) (tn := q.2.2.2.2.2.1) (ka := q.2.2.2.2.2.2.1) (kf := q.2.2.2.2.2.2.2.1) (ks := q.2.2.2.2.2.2.2.2.1) (kc := q.2.2.2.2.2.2.2.2.2) (mo := mo) (op := op) (tot := tot) (t := mcs M ++ u) (i := i) g1 g2
  rw [laws_eq g5] at hx
  exact ⟨_, stp_mk hx (pm_X7_laws xm_b g1 g3 g4) hR hS hn⟩
theorem stp_next (hI : Inv h n) (w : Int32) : ∃ v, Sp2 l D YX6_next YX7_next 4 4 [.int w] h n (.int v) := by
  obtain ⟨N, im, ps, pn, q, mo, op, tot, M, u, Im, rfl, hR, hS, hn⟩ := hI
  obtain ⟨hW, ⟨c, c1, c2, c3, c4⟩, z1, z2, him⟩ := id hR
  obtain ⟨hN, hB, g, g1, g2, g3, g4, g5, g6⟩ := id hW
  have hx := pm_X6_next (l := l) (D := D) (N := N) (im := im) (ps := ps) (pn := pn) (T := q.1) (ta := q.2.1) (tb := q.2.2.1) (tw := q.2.2.2.1) (tp := q.2.2.2.2.1) (tn := q.2.2.2.2.2.1) (ka := q.2.2.2.2.2.2.1) (kf := q.2.2.2.2.2.2.2.1) (ks := q.2.2.2.2.2.2.2.2.1) (kc := q.2.2.2.2.2.2.2.2.2) (mo := mo) (op := op) (tot := tot) (t := mcs M ++ u) (w := w) g1 g2
  rw [next_eq g5 hN.2.1 op (mye M)] at hx
  exact ⟨_, stp_mk hx (pm_X7_next xm_b hW.1.1 hW.rw hW.1.2.1 g1 g3 g4) ⟨hW, ⟨c, c1, c2, c3, c4⟩, z1, z2, him⟩ hS hn⟩
theorem stp_chance (hI : Inv h n) (s x a t p : Int32) : ∃ v, Sp2 l D YX6_chance YX7_chance 4 4 [.int s, .int x, .int a, .int t, .int p] h n (.long v) := by
  obtain ⟨N, im, ps, pn, q, mo, op, tot, M, u, Im, rfl, hR, hS, hn⟩ := hI
  obtain ⟨hW, ⟨c, c1, c2, c3, c4⟩, z1, z2, him⟩ := id hR
  have hx := pm_X6_chance (l := l) (D := D) (N := N) (im := im) (ps := ps) (pn := pn) (T := q.1) (ta := q.2.1) (tb := q.2.2.1) (tw := q.2.2.2.1) (tp := q.2.2.2.2.1) (tn := q.2.2.2.2.2.1) (ka := q.2.2.2.2.2.2.1) (kf := q.2.2.2.2.2.2.2.1) (ks := q.2.2.2.2.2.2.2.2.1) (kc := q.2.2.2.2.2.2.2.2.2) (mo := mo) (op := op) (tot := tot) (t := mcs M ++ u) (s := s) (x := x) (n := a) (u := t) (p := p)
  cases hg : (sLiv N s && sBox x && (sIn a 0 2 && (sIn t 0 10 && sIn p 0 1)))
  · rw [chance_r hg] at hx
    exact ⟨_, stp_mk hx (pm_X7_chance_r xm_b hW.1.1 hg) hR hS hn⟩
  · rw [Bool.and_eq_true, Bool.and_eq_true, Bool.and_eq_true, Bool.and_eq_true] at hg
    obtain ⟨⟨q1, q2⟩, q3, q4, q5⟩ := hg
    obtain ⟨i, hi, rfl⟩ := vp_in_of (vin_liv q1) (by decide)
    obtain ⟨j, hj, rfl⟩ := box_nI q2
    obtain ⟨d, hd, rfl⟩ := in_nI 2 rfl (by decide) (by decide) q3
    obtain ⟨e, he, rfl⟩ := in_nI 10 rfl (by decide) (by decide) q4
    obtain ⟨y, z, y1, y2, y3, y4, y5, y6⟩ := chance_eq hW.1.2.1 hi hj q1 hd he q5
    rw [y6] at hx
    exact ⟨_, stp_mk hx (pm_X7_chance_a xm_b hW.1.1 hW.rw hW.1.2.1 hi hj q1 hd he q5 y1 y2 y3 y4 y5) hR hS hn⟩
theorem stp_book (hI : Inv h n) (s m w : Int32) : ∃ v, Sp2 l D YX6_book YX7_book 7 6 [.int s, .int m, .int w] h n (.int v) := by
  obtain ⟨N, im, ps, pn, q, mo, op, tot, M, u, Im, rfl, hR, hS, hn⟩ := hI
  obtain ⟨hW, ⟨c, c1, c2, c3, c4⟩, z1, z2, him⟩ := id hR
  have hx := pm_X6_book (l := l) (D := D) (N := N) (im := im) (ps := ps) (pn := pn) (T := q.1) (ta := q.2.1) (tb := q.2.2.1) (tw := q.2.2.2.1) (tp := q.2.2.2.2.1) (tn := q.2.2.2.2.2.1) (ka := q.2.2.2.2.2.2.1) (kf := q.2.2.2.2.2.2.2.1) (ks := q.2.2.2.2.2.2.2.2.1) (kc := q.2.2.2.2.2.2.2.2.2) (mo := mo) (op := op) (tot := tot) (t := mcs M ++ u) (s := s) (m := m) (w := w)
  unfold cBkR at hx
  cases hg : (sIn s 0 9999 && sIn m 1 99 && sIn w 0 2)
  · have e : (if sIn s 0 9999 then (if sIn m 1 99 then (if sIn w 0 2 then (if w = 0 then bc (wlv (dwGo m.toNatClampNeg s (sCpy q.1 N) q.2.2.2.2.2.2.1 q.2.2.2.2.2.2.2.1 q.2.2.2.2.2.2.2.2.1 q.2.2.2.2.2.2.2.2.2).1) else if w = 1 then sPurs (dwGo m.toNatClampNeg s (sCpy q.1 N) q.2.2.2.2.2.2.1 q.2.2.2.2.2.2.2.1 q.2.2.2.2.2.2.2.2.1 q.2.2.2.2.2.2.2.2.2).1 else sCoin (dwGo m.toNatClampNeg s (sCpy q.1 N) q.2.2.2.2.2.2.1 q.2.2.2.2.2.2.2.1 q.2.2.2.2.2.2.2.2.1 q.2.2.2.2.2.2.2.2.2).1) else -2) else -2) else -2) = -2 := by
      cases h1 : sIn s 0 9999
      · rfl
      · cases h2 : sIn m 1 99
        · rfl
        · cases h3 : sIn w 0 2
          · rfl
          · rw [h1, h2, h3] at hg; cases hg
    rw [e] at hx
    exact ⟨_, stp_mk (q2 := ((cBkQ N q.1 q.2.2.2.2.2.2.1 q.2.2.2.2.2.2.2.1 q.2.2.2.2.2.2.2.2.1 q.2.2.2.2.2.2.2.2.2 s m w).1, q.2.1, q.2.2.1, q.2.2.2.1, q.2.2.2.2.1, q.2.2.2.2.2.1, (cBkQ N q.1 q.2.2.2.2.2.2.1 q.2.2.2.2.2.2.2.1 q.2.2.2.2.2.2.2.2.1 q.2.2.2.2.2.2.2.2.2 s m w).2)) hx (pm_X7_book_r xm_b hg) hR hS hn⟩
  · rw [Bool.and_eq_true, Bool.and_eq_true] at hg
    obtain ⟨⟨g1, g2⟩, g3⟩ := hg
    obtain ⟨a, ha, rfl⟩ := in_nI 9999 rfl (by decide) (by decide) g1
    obtain ⟨d, hd1, hd2, rfl⟩ := in_off (a := 1) (b := 99) rfl rfl (by decide) (by decide) g2
    rw [if_pos g1, if_pos g2, if_pos g3, cl8 (show d < 1000 by omega)] at hx
    obtain ⟨b1, b2⟩ := bk_go d a (sCpy q.1 N) (mNow M) q.2.2.2.2.2.2.1 q.2.2.2.2.2.2.2.1 q.2.2.2.2.2.2.2.2.1 q.2.2.2.2.2.2.2.2.2 (show a < 65537 by omega) (hW.1.cg (WE.cpy q.1 N) (fun y hy => asN_at (mbk M) (mnw M) 96 y hy)) (WE.cpy q.1 N).tk
    rw [bk_lv b1, bk_pu b1, bk_co b1] at hx
    exact ⟨_, stp_mk (q2 := ((cBkQ N q.1 q.2.2.2.2.2.2.1 q.2.2.2.2.2.2.2.1 q.2.2.2.2.2.2.2.2.1 q.2.2.2.2.2.2.2.2.2 (nI a) (nI d) w).1, q.2.1, q.2.2.1, q.2.2.2.1, q.2.2.2.2.1, q.2.2.2.2.2.1, (cBkQ N q.1 q.2.2.2.2.2.2.1 q.2.2.2.2.2.2.2.1 q.2.2.2.2.2.2.2.2.1 q.2.2.2.2.2.2.2.2.2 (nI a) (nI d) w).2)) hx (pm_X7_book_a xm_b hW.rw ha ⟨hd1, hd2⟩ g3) (hR.keep (keep_tr (keep_mNow M) (keep_bkGo N d a (mNow M)))) hS hn⟩
theorem stp_told (hI : Inv h n) (w : Int32) : ∃ v, Sp2 l D YX6_told YX7_told 3 3 [.int w] h n (.int v) := by
  obtain ⟨N, im, ps, pn, q, mo, op, tot, M, u, Im, rfl, hR, hS, hn⟩ := hI
  obtain ⟨hW, ⟨c, c1, c2, c3, c4⟩, z1, z2, him⟩ := id hR
  obtain ⟨hN, hB, g, g1, g2, g3, g4, g5, g6⟩ := id hW
  have e : pn = msn M := c2.trans c3.symm
  subst e
  have hx := pm_X6_told (l := l) (D := D) (N := N) (im := im) (ps := ps) (pn := msn M) (T := q.1) (ta := q.2.1) (tb := q.2.2.1) (tw := q.2.2.2.1) (tp := q.2.2.2.2.1) (tn := q.2.2.2.2.2.1) (ka := q.2.2.2.2.2.2.1) (kf := q.2.2.2.2.2.2.2.1) (ks := q.2.2.2.2.2.2.2.2.1) (kc := q.2.2.2.2.2.2.2.2.2) (mo := mo) (op := op) (tot := tot) (t := mcs M ++ u) (w := w)
  exact ⟨_, stp_mk hx (pm_X7_told xm_b hW.1.1 hW.rw hW.1.2.1 (g3.trans g2.symm)) hR hS hn⟩
theorem stp_image (hI : Inv h n) (x : Int32) : ∃ v, Sp2 l D YX6_image YX7_image 2 2 [.int x] h n (.int v) := by
  obtain ⟨N, im, ps, pn, q, mo, op, tot, M, u, Im, rfl, hR, hS, hn⟩ := hI
  obtain ⟨hW, ⟨c, c1, c2, c3, c4⟩, z1, z2, him⟩ := id hR
  cases hg : sIn x 0 1
  · have hx := pm_X6_image_out (l := l) (D := D) (N := N) (im := im) (ps := ps) (pn := pn) (T := q.1) (ta := q.2.1) (tb := q.2.2.1) (tw := q.2.2.2.1) (tp := q.2.2.2.2.1) (tn := q.2.2.2.2.2.1) (ka := q.2.2.2.2.2.2.1) (kf := q.2.2.2.2.2.2.2.1) (ks := q.2.2.2.2.2.2.2.2.1) (kc := q.2.2.2.2.2.2.2.2.2) (mo := mo) (op := op) (tot := tot) (t := mcs M ++ u) (n := x) hg
    exact ⟨_, stp_mk hx (pm_X7_image_r xm_b hg) hR hS hn⟩
  · obtain ⟨k, hk, rfl⟩ := in_nI 1 rfl (by decide) (by decide) hg
    have hk : k < 2 := by omega
    have hIm : ∀ S, WE N S → ∀ j, j < 2 → ∀ b, (∀ i, i < 2 → i ≠ k → va_up im k (some b) i = im i) → (va_up im k (some b) j = none ∧ mkp (mImg M k) j = 0) ∨ (∃ b2, va_up im k (some b) j = some b2 ∧ mkp (mImg M k) j = 1 ∧ RIm (mim (mImg M k)) j (va_up Im k S j)) := by
      intro S hE j hj b _
      show (_ ∧ upd (mkp M) k 1 j = 0) ∨ (∃ b2, _ ∧ upd (mkp M) k 1 j = 1 ∧ RIm (imD M (130 * k)) j (va_up Im k S j))
      by_cases hjk : j = k
      · subst hjk
        rw [va_up_self, va_up_self, pk_us]
        exact Or.inr ⟨b, rfl, rfl, img_same hE hW⟩
      · rw [va_up_ne _ _ hjk, va_up_ne _ _ hjk, pk_un hjk]
        rcases him j hj with a1 | ⟨b2, a1, a2, a3⟩
        · exact Or.inl a1
        · exact Or.inr ⟨b2, a1, a2, img_other hk hj hjk a3⟩
    rcases him k hk with ⟨i1, i2⟩ | ⟨b, i1, i2, i3⟩
    · have hl := hS.len
      have hx := pm_X6_image_none (l := l) (D := D) (N := N) (im := im) (ps := ps) (pn := pn) (T := q.1) (ta := q.2.1) (tb := q.2.2.1) (tw := q.2.2.2.1) (tp := q.2.2.2.2.1) (tn := q.2.2.2.2.2.1) (ka := q.2.2.2.2.2.2.1) (kf := q.2.2.2.2.2.2.2.1) (ks := q.2.2.2.2.2.2.2.2.1) (kc := q.2.2.2.2.2.2.2.2.2) (mo := mo) (op := op) (tot := tot) (t := mcs M ++ u) hk i1 (q := 39 + u.length) (by rw [List.length_append]; show 11 + u.length + 28 = _; omega)
      refine ⟨1, XM N (va_up im k (some (39 + u.length))) ps pn q mo op tot M (u ++ wc (39 + u.length) (sCpy w0 N)), XM N (va_up im k (some (39 + u.length))) ps pn q mo op tot (mImg M k) (u ++ wc (39 + u.length) (sCpy w0 N)), 9, 126, _, ?_, rfl, ?_, pm_X7_image_a (h := XM N (va_up im k (some (39 + u.length))) ps pn q mo op tot M (u ++ wc (39 + u.length) (sCpy w0 N))) xm_b hk, ⟨N, _, ps, pn, q, mo, op, tot, mImg M k, _, va_up Im k (sCpy w0 N), rfl, ⟨hW, ⟨c, c1, c2, c3, c4⟩, z1, z2, fun j hj => hIm _ (WE.cpy w0 N) j hj _ (fun i _ hi => va_up_ne _ _ hi)⟩, hS.add hk i1 rfl _, ?_⟩, by decide, by decide⟩
      · rw [List.append_assoc] at hx
        exact hx
      · rw [xm_len, List.length_append, wc_len]; omega
      · rw [List.length_append, wc_len]; omega
    · obtain ⟨t1, t2, u1, u2, u3⟩ := hS.at hk i1
      have hl := hS.len
      have hx := pm_X6_image_some (l := l) (D := D) (N := N) (im := im) (ps := ps) (pn := pn) (T := q.1) (ta := q.2.1) (tb := q.2.2.1) (tw := q.2.2.2.1) (tp := q.2.2.2.2.1) (tn := q.2.2.2.2.2.1) (ka := q.2.2.2.2.2.2.1) (kf := q.2.2.2.2.2.2.2.1) (ks := q.2.2.2.2.2.2.2.2.1) (kc := q.2.2.2.2.2.2.2.2.2) (mo := mo) (op := op) (tot := tot) hk (t1 := mcs M ++ t1) (t2 := t2) (b := b) (S := Im k) (by rw [List.length_append]; show 11 + t1.length + 28 = _; omega) i1
      rw [List.append_assoc, List.append_assoc, ← u1] at hx
      obtain ⟨s1, s2⟩ := u3 (sCpy (Im k) N)
      have ei : ∀ j, va_up im k (some b) j = im j := fun j => by
        by_cases hjk : j = k
        · rw [hjk, va_up_self, i1]
        · exact va_up_ne _ _ hjk
      refine ⟨1, XM N im ps pn q mo op tot M (t1 ++ (wc b (sCpy (Im k) N) ++ t2)), XM N im ps pn q mo op tot (mImg M k) (t1 ++ (wc b (sCpy (Im k) N) ++ t2)), 0, 0, _, hx, rfl, ?_, pm_X7_image_a (h := XM N im ps pn q mo op tot M (t1 ++ (wc b (sCpy (Im k) N) ++ t2))) xm_b hk, ⟨N, im, ps, pn, q, mo, op, tot, mImg M k, _, va_up Im k (sCpy (Im k) N), rfl, ⟨hW, ⟨c, c1, c2, c3, c4⟩, z1, z2, fun j hj => by have := hIm _ (WE.cpy (Im k) N) j hj b (fun i _ hi => va_up_ne _ _ hi); rw [ei] at this; exact this⟩, s1, ?_⟩, by decide, by decide⟩
      · rw [xm_len, s2]; omega
      · rw [s2]; exact hn
theorem stp_restore (hI : Inv h n) (x : Int32) : ∃ v, Sp2 l D YX6_restore YX7_restore 2 2 [.int x] h n (.int v) := by
  obtain ⟨N, im, ps, pn, q, mo, op, tot, M, u, Im, rfl, hR, hS, hn⟩ := hI
  obtain ⟨hW, ⟨c, c1, c2, c3, c4⟩, z1, z2, him⟩ := id hR
  cases hg : sIn x 0 1
  · have hx := pm_X6_restore_out (l := l) (D := D) (N := N) (im := im) (ps := ps) (pn := pn) (T := q.1) (ta := q.2.1) (tb := q.2.2.1) (tw := q.2.2.2.1) (tp := q.2.2.2.2.1) (tn := q.2.2.2.2.2.1) (ka := q.2.2.2.2.2.2.1) (kf := q.2.2.2.2.2.2.2.1) (ks := q.2.2.2.2.2.2.2.2.1) (kc := q.2.2.2.2.2.2.2.2.2) (mo := mo) (op := op) (tot := tot) (t := mcs M ++ u) (n := x) hg
    exact ⟨_, stp_mk hx (pm_X7_restore_r xm_b hg) hR hS hn⟩
  · obtain ⟨k, hk, rfl⟩ := in_nI 1 rfl (by decide) (by decide) hg
    have hk : k < 2 := by omega
    rcases him k hk with ⟨i1, i2⟩ | ⟨b, i1, i2, i3⟩
    · have hx := pm_X6_restore_none (l := l) (D := D) (N := N) (im := im) (ps := ps) (pn := pn) (T := q.1) (ta := q.2.1) (tb := q.2.2.1) (tw := q.2.2.2.1) (tp := q.2.2.2.2.1) (tn := q.2.2.2.2.2.1) (ka := q.2.2.2.2.2.2.1) (kf := q.2.2.2.2.2.2.2.1) (ks := q.2.2.2.2.2.2.2.2.1) (kc := q.2.2.2.2.2.2.2.2.2) (mo := mo) (op := op) (tot := tot) (t := mcs M ++ u) hk i1
      exact ⟨_, stp_mk hx (pm_X7_restore_n xm_b hk i2) hR hS hn⟩
    · obtain ⟨t1, t2, u1, u2, u3⟩ := hS.at hk i1
      have hx := pm_X6_restore_some (l := l) (D := D) (N := N) (im := im) (ps := ps) (pn := pn) (T := q.1) (ta := q.2.1) (tb := q.2.2.1) (tw := q.2.2.2.1) (tp := q.2.2.2.2.1) (tn := q.2.2.2.2.2.1) (ka := q.2.2.2.2.2.2.1) (kf := q.2.2.2.2.2.2.2.1) (ks := q.2.2.2.2.2.2.2.2.1) (kc := q.2.2.2.2.2.2.2.2.2) (mo := mo) (op := op) (tot := tot) hk (t1 := mcs M ++ t1) (t2 := t2) (b := b) (S := Im k) (by rw [List.length_append]; show 11 + t1.length + 28 = _; omega) i1
      rw [List.append_assoc, ← u1] at hx
      exact ⟨_, stp_mk hx (pm_X7_restore_a xm_b hk (by rw [i2]; decide)) ⟨res_ok i3, ⟨c, c1, c2, c3, c4⟩, z1, z2, him⟩ hS hn⟩
end INV
