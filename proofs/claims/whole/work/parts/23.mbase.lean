theorem nadd {x y : Int32} {a b : Nat} (hx : x = nI a) (hy : y = nI b) : x + y = nI (a + b) := by rw [hx, hy, nI_add]
theorem nmul {x y : Int32} {a b : Nat} (hx : x = nI a) (hy : y = nI b) : x * y = nI (a * b) := by rw [hx, hy, pk_mul]
section PMN
variable {l : Launch} {D : va_G} {Y : PMth} {R : Room} {n0 : Nat} {X : State → Array Value → Nat → Prop} {E : List Frame → Array Value → State → Nat → State → Prop} {pc nx : Nat} {L : List (Option Value)} {st st0 : List Value} {h h2 : PH} {n : Nat} {M : MS}
theorem w_ialdN {a N k : Nat} {f : Nat → Int32} {i : Int32} (hd : dc Y.2.1 pc .iaload 1 nx) (hc : h[a]? = some (ia N f)) (hk : i = nI k) (hN : k < N) (hNb : N < 2 ^ 31 := by decide) (kk : Wp l D Y R n0 X E nx L (.int (f k) :: st) h n) : Wp l D Y R n0 X E pc L (.int i :: .ref a :: st) h n := by
  subst hk
  refine w_iald hd hc (vp_in_nI hN hNb) ?_
  rw [nI_clamp (by omega)]
  exact kk
theorem w_aMn_bk {k : Nat} {i x : Int32} (hd : dc Y.2.1 pc .iastore 1 nx) (hb : 38 < h.length) (hk : i = nI k) (hN : k < 96) (kk : Wp l D Y R n0 X E nx L st (mput h (tbk M (upd (mbk M) k x))) n) : Wp l D Y R n0 X E pc L (.int x :: .int i :: .ref 29 :: st) (mput h M) n := by
  subst hk
  refine w_aM_bk hd hb (vp_in_nI hN (by decide)) ?_
  rw [nI_clamp (by omega)]
  exact kk
theorem w_aMn_nw {k : Nat} {i x : Int32} (hd : dc Y.2.1 pc .iastore 1 nx) (hb : 38 < h.length) (hk : i = nI k) (hN : k < 96) (kk : Wp l D Y R n0 X E nx L st (mput h (tnw M (upd (mnw M) k x))) n) : Wp l D Y R n0 X E pc L (.int x :: .int i :: .ref 30 :: st) (mput h M) n := by
  subst hk
  refine w_aM_nw hd hb (vp_in_nI hN (by decide)) ?_
  rw [nI_clamp (by omega)]
  exact kk
theorem w_aMn_wn {k : Nat} {i x : Int32} (hd : dc Y.2.1 pc .iastore 1 nx) (hb : 38 < h.length) (hk : i = nI k) (hN : k < 6) (kk : Wp l D Y R n0 X E nx L st (mput h (twn M (upd (mwn M) k x))) n) : Wp l D Y R n0 X E pc L (.int x :: .int i :: .ref 31 :: st) (mput h M) n := by
  subst hk
  refine w_aM_wn hd hb (vp_in_nI hN (by decide)) ?_
  rw [nI_clamp (by omega)]
  exact kk
theorem w_aMn_hi {k : Nat} {i x : Int32} (hd : dc Y.2.1 pc .iastore 1 nx) (hb : 38 < h.length) (hk : i = nI k) (hN : k < 6) (kk : Wp l D Y R n0 X E nx L st (mput h (thi M (upd (mhi M) k x))) n) : Wp l D Y R n0 X E pc L (.int x :: .int i :: .ref 32 :: st) (mput h M) n := by
  subst hk
  refine w_aM_hi hd hb (vp_in_nI hN (by decide)) ?_
  rw [nI_clamp (by omega)]
  exact kk
theorem w_aMn_si {k : Nat} {i x : Int32} (hd : dc Y.2.1 pc .iastore 1 nx) (hb : 38 < h.length) (hk : i = nI k) (hN : k < 16) (kk : Wp l D Y R n0 X E nx L st (mput h (tsi M (upd (msi M) k x))) n) : Wp l D Y R n0 X E pc L (.int x :: .int i :: .ref 33 :: st) (mput h M) n := by
  subst hk
  refine w_aM_si hd hb (vp_in_nI hN (by decide)) ?_
  rw [nI_clamp (by omega)]
  exact kk
theorem w_aMn_pd {k : Nat} {i x : Int32} (hd : dc Y.2.1 pc .iastore 1 nx) (hb : 38 < h.length) (hk : i = nI k) (hN : k < 60) (kk : Wp l D Y R n0 X E nx L st (mput h (tpd M (upd (mpd M) k x))) n) : Wp l D Y R n0 X E pc L (.int x :: .int i :: .ref 34 :: st) (mput h M) n := by
  subst hk
  refine w_aM_pd hd hb (vp_in_nI hN (by decide)) ?_
  rw [nI_clamp (by omega)]
  exact kk
theorem w_aMn_mo {k : Nat} {i x : Int32} (hd : dc Y.2.1 pc .iastore 1 nx) (hb : 38 < h.length) (hk : i = nI k) (hN : k < 576) (kk : Wp l D Y R n0 X E nx L st (mput h (tmo M (upd (mmo M) k x))) n) : Wp l D Y R n0 X E pc L (.int x :: .int i :: .ref 35 :: st) (mput h M) n := by
  subst hk
  refine w_aM_mo hd hb (vp_in_nI hN (by decide)) ?_
  rw [nI_clamp (by omega)]
  exact kk
theorem w_aMn_ye {k : Nat} {i x : Int32} (hd : dc Y.2.1 pc .iastore 1 nx) (hb : 38 < h.length) (hk : i = nI k) (hN : k < 8) (kk : Wp l D Y R n0 X E nx L st (mput h (tye M (upd (mye M) k x))) n) : Wp l D Y R n0 X E pc L (.int x :: .int i :: .ref 36 :: st) (mput h M) n := by
  subst hk
  refine w_aM_ye hd hb (vp_in_nI hN (by decide)) ?_
  rw [nI_clamp (by omega)]
  exact kk
theorem w_aMn_im {k : Nat} {i x : Int32} (hd : dc Y.2.1 pc .iastore 1 nx) (hb : 38 < h.length) (hk : i = nI k) (hN : k < 260) (kk : Wp l D Y R n0 X E nx L st (mput h (tim M (upd (mim M) k x))) n) : Wp l D Y R n0 X E pc L (.int x :: .int i :: .ref 37 :: st) (mput h M) n := by
  subst hk
  refine w_aM_im hd hb (vp_in_nI hN (by decide)) ?_
  rw [nI_clamp (by omega)]
  exact kk
end PMN
/-- a book of the reference holds the souls, debts and coins of a world -/
def RB (N : WS) (b : Nat → Int32) : Prop := (∀ j, j < 8 → b j = wmk N j ∧ b (8 + j) = wpu N j ∧ b (16 + j) = wwa N j) ∧ (∀ j, j < 64 → b (24 + j) = wde N j) ∧ (∀ j, j < 6 → b (88 + j) = wco N j) ∧ b 94 = wlv N ∧ b 95 = wyr N
def RW (N : WS) (M : MS) : Prop := ∀ j, j < 6 → mwn M j = wwn N j ∧ mhi M j = whi N j
/-- what numbers a world holds -/
def NOk (N : WS) : Prop := (∀ j, j < 8 → (∃ a, a < 256 ∧ wmk N j = nI a) ∧ (∃ a, a ≤ 999 ∧ wpu N j = nI a) ∧ (wwa N j = -6 ∨ ∃ a, a < 8 ∧ wwa N j = nI a)) ∧ (∀ j, j < 64 → ∃ a, a ≤ 999 ∧ wde N j = nI a) ∧ (∀ j, j < 6 → (∃ a, a < 256 ∧ wwn N j = nI a) ∧ (∃ a, a ≤ 8 ∧ whi N j = nI a) ∧ (∃ a, a ≤ 999 ∧ wco N j = nI a)) ∧ (∃ a, a < 256 ∧ wlv N = nI a) ∧ (∃ a, a ≤ 99 ∧ wyr N = nI a)
def mb (x : Int32) : Int32 := iter (fun i a => a + ((x >>> (nI i &&& 31)) &&& 1)) 8 0
theorem mb_bc : ∀ a, a < 256 → mb (nI a) = bc (nI a) := by decide +kernel
theorem sSoul_in (s : Int32) : sIn s 0 7 = sSoul s := by
  unfold sIn sSoul
  congr 1
  rw [decide_eq_decide, Int32.le_iff_toInt_le, Int32.lt_iff_toInt_lt]
  have e1 : (7 : Int32).toInt = 7 := rfl
  have e2 : (8 : Int32).toInt = 8 := rfl
  omega
theorem sBox_in (s : Int32) : sIn s 0 5 = sBox s := by
  unfold sIn sBox
  congr 1
  rw [decide_eq_decide, Int32.le_iff_toInt_le, Int32.lt_iff_toInt_lt]
  have e1 : (5 : Int32).toInt = 5 := rfl
  have e2 : (6 : Int32).toInt = 6 := rfl
  omega
theorem soul_nI {s : Int32} (h : sSoul s = true) : ∃ i, i < 8 ∧ s = nI i := vp_in_of (vin_soul h) (by decide)
theorem box_nI {s : Int32} (h : sBox s = true) : ∃ i, i < 6 ∧ s = nI i := vp_in_of (vin_box h) (by decide)
theorem soul_of {i : Nat} (h : i < 8) : sSoul (nI i) = true := by
  simp only [sSoul, Bool.and_eq_true, decide_eq_true_eq]
  exact ⟨nI_pos' (by omega), nI_lt (b := 8) h (by decide)⟩
theorem box_of {i : Nat} (h : i < 6) : sBox (nI i) = true := by
  simp only [sBox, Bool.and_eq_true, decide_eq_true_eq]
  exact ⟨nI_pos' (by omega), nI_lt (b := 6) h (by decide)⟩
theorem cl8 {i : Nat} (h : i < 1000) : (nI i).toNatClampNeg = i := nI_clamp (by omega)
/-- the marks that a soul has of those that a box wants -/
theorem felt_mb {N : WS} (hN : NOk N) {x i : Nat} (hx : x < 6) (hi : i < 8) : mb (wmk N i &&& wwn N x) = sFelt N (nI x) (nI i) := by
  obtain ⟨a, ha, ea⟩ := (hN.1 i hi).1
  obtain ⟨c, hc, ec⟩ := (hN.2.2.1 x hx).1
  unfold sFelt
  rw [cl8 (by omega), cl8 (by omega), ea, ec, nI_and, nI_and, Nat.and_comm, mb_bc]
  exact Nat.lt_of_le_of_lt Nat.and_le_left hc
