/-- a book by draws -/
theorem bA_end {N T : WS} {M : MS} {f s c : Int32} (h : RN T (mnw M)) (hk : TK N T) : RN (if sHind T 0 f s c = 0 then sPerf T 0 f s c else T) (mnw (mEndM M)) ∧ TK N (if sHind T 0 f s c = 0 then sPerf T 0 f s c else T) := by
  rw [h_end h, p_end]
  unfold rEnd mEndM
  by_cases h0 : mnw M 95 = 99
  · rw [if_pos h0, if_pos h0, if_neg (by decide)]; exact ⟨h, hk⟩
  · rw [if_neg h0, if_neg h0, if_pos rfl, mnw_tnw]; exact ⟨end_ok h h0, hk.tr (tk_end _ _)⟩
theorem bA_die {N T : WS} {M : MS} {c : Int32} {i j : Nat} (hi : i < 8) (hj : j < 8) (h : RN T (mnw M)) (hk : TK N T) : RN (if sHind T 1 (nI i) (nI j) c = 0 then sPerf T 1 (nI i) (nI j) c else T) (mnw (mDieM M i j)) ∧ TK N (if sHind T 1 (nI i) (nI j) c = 0 then sPerf T 1 (nI i) (nI j) c else T) := by
  rw [h_die h hi hj, p_die]
  unfold mDieM
  by_cases h0 : rDie (mnw M) i j = 0
  · rw [if_pos h0, if_pos h0, mnw_tnw]; exact ⟨die_ok hi hj h h0, hk.tr (tk_die _ _ _)⟩
  · rw [if_neg h0, if_neg h0]; exact ⟨h, hk⟩
theorem bA_len {N T : WS} {M : MS} {i j q : Nat} (hi : i < 8) (hj : j < 8) (hq : q ≤ 9) (h : RN T (mnw M)) (hk : TK N T) : RN (if sHind T 2 (nI i) (nI j) (nI q) = 0 then sPerf T 2 (nI i) (nI j) (nI q) else T) (mnw (mLenM M i j (nI q))) ∧ TK N (if sHind T 2 (nI i) (nI j) (nI q) = 0 then sPerf T 2 (nI i) (nI j) (nI q) else T) := by
  rw [h_len h hi hj, p_len]
  unfold mLenM
  by_cases h0 : rLen (mnw M) i j (nI q) = 0
  · rw [if_pos h0, if_pos h0, mnw_tnw]; exact ⟨lend_ok hi hj hq h h0, hk.tr (tk_len _ _ _ _)⟩
  · rw [if_neg h0, if_neg h0]; exact ⟨h, hk⟩
theorem bA_try {N T : WS} {M : MS} {c : Int32} {i x : Nat} (hi : i < 8) (hx : x < 6) (h : RN T (mnw M)) (hk : TK N T) : RN (if sHind T 3 (nI i) (nI x) c = 0 then sPerf T 3 (nI i) (nI x) c else T) (mnw (mTryM N M i x)) ∧ TK N (if sHind T 3 (nI i) (nI x) c = 0 then sPerf T 3 (nI i) (nI x) c else T) := by
  have hlet := lets_n h hk hi hx
  rw [h_try h hi, p_try]
  unfold mTryM
  cases hl : sBit (mnw M 94) (nI i)
  · rw [if_neg (show ¬ false = true by decide), if_neg (show ¬ false = true by decide), if_neg (by decide)]; exact ⟨h, hk⟩
  · rw [hl, Bool.true_and] at hlet
    rw [if_pos rfl, if_pos rfl, if_pos rfl]
    cases ho : aOpn N (mnw M) i x
    · have eT : sTry T (nI i) (nI x) = T := by
        unfold sTry; rw [hlet, ho, if_neg (by decide)]
      rw [if_neg (show ¬ false = true by decide), eT, mnw_tio]; exact ⟨h, hk⟩
    · rw [if_pos rfl, mnw_tnw]; exact ⟨try_ok hi hx h (by rw [hlet, ho]), hk.tr (tk_try _ _ _)⟩
theorem eqK {v d : Nat} {y : Int32} (hy : y = nI d) (hv : v < 1000) (hd : d < 1000) : nI v = y ↔ v = d := by rw [hy]; exact nI_eqI (by omega) (by omega)
theorem bk_act {N T : WS} {M : MS} {kc : Int32} {v : Nat} (hv : v < 65537) (h : RN T (mnw M)) (hk : TK N T) : RN (dwT T (nI v) kc) (mnw (bkA N v M)) ∧ TK N (dwT T (nI v) kc) := by
  have e8 : jrem (nI v) 8 = nI (v % 8) := bk_rem rfl hv (by decide) (by decide)
  have eF : dwF (nI v) = nI (v / 8 % 8) := bk_dr (e := 8) rfl rfl hv (by decide) (by decide) (by decide) (by decide)
  have e64 : jrem (nI v / 64) 8 = nI (v / 64 % 8) := bk_dr (e := 64) rfl rfl hv (by decide) (by decide) (by decide) (by decide)
  have e646 : jrem (nI v / 64) 6 = nI (v / 64 % 6) := bk_dr (e := 64) rfl rfl hv (by decide) (by decide) (by decide) (by decide)
  have e512 : (1 : Int32) + jrem (nI v / 512) 9 = nI (1 + v / 512 % 9) := by
    rw [show jrem (nI v / 512) 9 = nI (v / 512 % 9) from bk_dr (e := 512) rfl rfl hv (by decide) (by decide) (by decide) (by decide), ← nI_add]; rfl
  unfold dwT dwA dwS dwC bkA
  rw [eF, e8, e64, e646, e512]
  have hm : v % 8 < 8 := Nat.mod_lt _ (by decide)
  by_cases c0 : v % 8 = 0
  · have k0 : nI (v % 8) = 0 := (eqK (d := 0) rfl (by omega) (by decide)).mpr c0
    rw [if_pos k0, if_pos k0, if_pos k0, if_pos c0]
    exact bA_end h hk
  · have k0 : ¬ nI (v % 8) = 0 := fun z => c0 ((eqK (d := 0) rfl (by omega) (by decide)).mp z)
    rw [if_neg k0, if_neg k0, if_neg k0, if_neg c0]
    by_cases c1 : v % 8 = 1
    · have k1 : nI (v % 8) = 1 := (eqK (d := 1) rfl (by omega) (by decide)).mpr c1
      rw [if_pos k1, if_pos k1, if_pos k1, if_pos c1]
      exact bA_die (Nat.mod_lt _ (by decide)) (Nat.mod_lt _ (by decide)) h hk
    · have k1 : ¬ nI (v % 8) = 1 := fun z => c1 ((eqK (d := 1) rfl (by omega) (by decide)).mp z)
      rw [if_neg k1, if_neg k1, if_neg k1, if_neg c1]
      by_cases c3 : 3 < v % 8
      · have k3 : (3 : Int32) < nI (v % 8) := nI_lt (a := 3) c3 (by omega)
        rw [if_pos k3, if_pos k3, if_pos k3, if_neg (show ¬ v % 8 < 4 by omega)]
        exact bA_try (Nat.mod_lt _ (by decide)) (Nat.mod_lt _ (by decide)) h hk
      · have k3 : ¬ (3 : Int32) < nI (v % 8) := nI_nlt (b := v % 8) (a := 3) (by omega) (by decide)
        rw [if_neg k3, if_neg k3, if_neg k3, if_pos (show v % 8 < 4 by omega)]
        have := Nat.mod_lt (v / 512) (show 0 < 9 by decide)
        exact bA_len (Nat.mod_lt _ (by decide)) (Nat.mod_lt _ (by decide)) (show 1 + v / 512 % 9 ≤ 9 by omega) h hk
theorem bk_go {N : WS} : ∀ (k v : Nat) (T : WS) (M : MS) (ka kf ks kc : Int32), v < 65537 → RN T (mnw M) → TK N T → RN (dwGo k (nI v) T ka kf ks kc).1 (mnw (bkGo N k v M)) ∧ TK N (dwGo k (nI v) T ka kf ks kc).1
  | 0, v, T, M, ka, kf, ks, kc, _, h, hk => ⟨h, hk⟩
  | k + 1, v, T, M, ka, kf, ks, kc, hv, h, hk => by
    have e : dwX (nI v) = nI (bkX v) := bkx_eq hv
    rw [dwGo, bkGo, e]
    obtain ⟨a1, a2⟩ := bk_act (kc := kc) (bkX_lt v) h hk
    exact bk_go k (bkX v) _ _ _ _ _ _ (bkX_lt v) a1 a2
theorem bk_lv {T : WS} {b : Nat → Int32} (h : RN T b) : bc (wlv T) = mb (b 94) := by
  obtain ⟨a, ha, ea⟩ := h.2.1.2.2.2.1
  rw [h.1.2.2.2.1, ea, mb_bc a ha]
theorem bk_pu {T : WS} {b : Nat → Int32} (h : RN T b) : sPurs T = mPur b 8 := by
  unfold sPurs mPur
  refine iter_c 8 (fun k hk a => ?_) _
  show a + (if sLiv T (nI k) then wpu T (nI k).toNatClampNeg else 0) = a + (bif sBit (b 94) (nI k) then b (8 + k) else 0)
  rw [liv_n h hk, cl8 (by omega), (h.1.1 k hk).2.1]
  cases sBit (b 94) (nI k) <;> rfl
theorem bk_co {T : WS} {b : Nat → Int32} (h : RN T b) : sCoin T = mCoi b 6 := by
  unfold sCoin mCoi
  refine iter_c 6 (fun k hk a => ?_) _
  show a + wco T (nI k).toNatClampNeg = a + b (88 + k)
  rw [cl8 (by omega), h.1.2.2.1 k hk]
/-- birth -/
theorem bir_d {i : Nat} (hi : i < 8) (d : Nat → Int32) : ∀ k, k ≤ 8 → ∀ r c, r < 8 → c < 8 → iter (sDebz (nI i)) k d (r * 8 + c) = if (r = i ∧ c < k) ∨ (c = i ∧ r < k) then 0 else d (r * 8 + c)
  | 0, _, r, c, _, _ => by rw [if_neg (by omega), ← iter_0]
  | k + 1, hk, r, c, hr, hc => by
    have ih := bir_d hi d k (by omega) r c hr hc
    rw [iter_s]
    unfold sDebz
    rw [deb_cl hi (by omega), deb_cl (by omega) hi]
    by_cases h1 : r * 8 + c = k * 8 + i
    · rw [h1, pk_us, if_pos (by omega)]
    · rw [pk_un h1]
      by_cases h2 : r * 8 + c = i * 8 + k
      · rw [h2, pk_us, if_pos (by omega)]
      · rw [pk_un h2]
        unfold sDebz at ih
        rw [ih]
        by_cases h3 : (r = i ∧ c < k) ∨ (c = i ∧ r < k)
        · rw [if_pos h3, if_pos (by omega)]
        · rw [if_neg h3, if_neg (by omega)]
theorem bir_b {i : Nat} (hi : i < 8) (b : Nat → Int32) : ∀ k, k ≤ 8 → ∀ r c, r < 8 → c < 8 → mBirD i k b (24 + (r * 8 + c)) = if (r = i ∧ c < k) ∨ (c = i ∧ r < k) then 0 else b (24 + (r * 8 + c))
  | 0, _, r, c, _, _ => by rw [if_neg (by omega)]; rfl
  | k + 1, hk, r, c, hr, hc => by
    have ih := bir_b hi b k (by omega) r c hr hc
    show upd (upd (mBirD i k b) (24 + 8 * i + k) 0) (24 + 8 * k + i) 0 _ = _
    by_cases h1 : 24 + (r * 8 + c) = 24 + 8 * k + i
    · rw [h1, pk_us, if_pos (by omega)]
    · rw [pk_un h1]
      by_cases h2 : 24 + (r * 8 + c) = 24 + 8 * i + k
      · rw [h2, pk_us, if_pos (by omega)]
      · rw [pk_un h2, ih]
        by_cases h3 : (r = i ∧ c < k) ∨ (c = i ∧ r < k)
        · rw [if_pos h3, if_pos (by omega)]
        · rw [if_neg h3, if_neg (by omega)]
theorem bir_o {i : Nat} (hi : i < 8) (b : Nat → Int32) {y : Nat} (hy : y < 24 ∨ 88 ≤ y) : ∀ k, k ≤ 8 → mBirD i k b y = b y
  | 0, _ => rfl
  | k + 1, hk => by
    show upd (upd (mBirD i k b) (24 + 8 * i + k) 0) (24 + 8 * k + i) 0 y = _
    rw [pk_un (by omega), pk_un (by omega), bir_o hi b hy k (by omega)]
theorem birth_ok {N : WS} {b : Nat → Int32} {i q p : Nat} (hi : i < 8) (hq : q ≤ 255) (hp : p ≤ 999) (h : RN N b) : RN (sBear N (nI i) (nI q) (nI p)) (mBir b i (nI q) (nI p)) := by
  obtain ⟨⟨r1, r2, r3, r4, r5⟩, ⟨n1, n2, n3, ⟨a, ha, ea⟩, n5⟩, hz⟩ := h
  have e1 : ∀ r c, r < 8 → c < 8 → wde (sBear N (nI i) (nI q) (nI p)) (r * 8 + c) = if (r = i ∧ c < 8) ∨ (c = i ∧ r < 8) then 0 else wde N (r * 8 + c) := fun r c hr hc => bir_d hi (wde N) 8 (Nat.le_refl 8) r c hr hc
  have e2 : ∀ r c, r < 8 → c < 8 → mBir b i (nI q) (nI p) (24 + (r * 8 + c)) = if (r = i ∧ c < 8) ∨ (c = i ∧ r < 8) then 0 else b (24 + (r * 8 + c)) := fun r c hr hc => by
    unfold mBir
    rw [bir_b hi _ 8 (Nat.le_refl 8) r c hr hc]
    unfold mBir0
    rw [pk_un (by omega), pk_un (by omega), pk_un (by omega), pk_un (by omega)]
  have e3 : ∀ y, y < 24 ∨ 88 ≤ y → mBir b i (nI q) (nI p) y = mBir0 b i (nI q) (nI p) y := fun y hy => bir_o hi _ hy 8 (Nat.le_refl 8)
  have hlv : wlv (sBear N (nI i) (nI q) (nI p)) = nI (a ||| 2 ^ i) := by
    show wlv N ||| (1 <<< (nI i &&& 31)) = _
    rw [ea, shl_nI i hi, nI_or]
  have hlt : a ||| 2 ^ i < 256 := or_256 ha (Nat.pow_lt_pow_right (by decide) hi)
  have hmk : ∀ r, wmk (sBear N (nI i) (nI q) (nI p)) r = if r = i then nI q else wmk N r := fun r => by
    show upd (wmk N) (nI i).toNatClampNeg (nI q) r = _
    rw [cl8 (show i < 1000 by omega)]; rfl
  have hpu : ∀ r, wpu (sBear N (nI i) (nI q) (nI p)) r = if r = i then nI p else wpu N r := fun r => by
    show upd (wpu N) (nI i).toNatClampNeg (nI p) r = _
    rw [cl8 (show i < 1000 by omega)]; rfl
  have hwa : ∀ r, wwa (sBear N (nI i) (nI q) (nI p)) r = if r = i then -6 else wwa N r := fun r => by
    show upd (wwa N) (nI i).toNatClampNeg (-6) r = _
    rw [cl8 (show i < 1000 by omega)]; rfl
  refine ⟨⟨fun r hr => ⟨?_, ?_, ?_⟩, fun y hy => ?_, fun x hx => ?_, ?_, ?_⟩, ⟨fun r hr => ⟨?_, ?_, ?_⟩, fun y hy => ?_, n3, ⟨_, hlt, hlv⟩, n5⟩, ?_⟩
  · rw [e3 r (by omega), hmk]
    unfold mBir0
    rw [pk_un (by omega), pk_un (by omega)]
    by_cases c1 : r = i
    · rw [c1, pk_us, if_pos rfl]
    · rw [pk_un c1, pk_un (by omega), if_neg c1]; exact (r1 r hr).1
  · rw [e3 (8 + r) (by omega), hpu]
    unfold mBir0
    rw [pk_un (by omega)]
    by_cases c1 : r = i
    · rw [c1, pk_us, if_pos rfl]
    · rw [pk_un (by omega), pk_un (by omega), pk_un (by omega), if_neg c1]; exact (r1 r hr).2.1
  · rw [e3 (16 + r) (by omega), hwa]
    unfold mBir0
    by_cases c1 : r = i
    · rw [c1, pk_us, if_pos rfl]
    · rw [pk_un (by omega), pk_un (by omega), pk_un (by omega), pk_un (by omega), if_neg c1]; exact (r1 r hr).2.2
  · have h1 := e1 (y / 8) (y % 8) (by omega) (by omega)
    have h2 := e2 (y / 8) (y % 8) (by omega) (by omega)
    rw [show y / 8 * 8 + y % 8 = y by omega] at h1 h2
    rw [h1, h2, r2 y hy]
  · rw [e3 (88 + x) (by omega)]
    unfold mBir0
    rw [pk_un (by omega), pk_un (by omega), pk_un (by omega), pk_un (by omega)]; exact r3 x hx
  · rw [e3 94 (by omega), hlv]
    unfold mBir0
    rw [pk_un (by omega), pk_un (by omega), pk_un (by omega), pk_us, r4, ea, shl_nI i hi, nI_or]
  · rw [e3 95 (by omega)]
    unfold mBir0
    rw [pk_un (by omega), pk_un (by omega), pk_un (by omega), pk_un (by omega)]; exact r5
  · rw [hmk]
    split
    · exact ⟨q, by omega, rfl⟩
    · exact (n1 r hr).1
  · rw [hpu]
    split
    · exact ⟨p, by omega, rfl⟩
    · exact (n1 r hr).2.1
  · rw [hwa]
    split
    · exact Or.inl rfl
    · exact (n1 r hr).2.2
  · have h1 := e1 (y / 8) (y % 8) (by omega) (by omega)
    rw [show y / 8 * 8 + y % 8 = y by omega] at h1
    rw [h1]
    split
    · exact ⟨0, by decide, rfl⟩
    · exact n2 y hy
  · intro r c hr hc hq2
    rw [e1 r c hr hc]
    split
    · rfl
    · rename_i hn
      rw [hlv, bit_nI _ hlt r hr, bit_nI _ hlt c hc, Nat.testBit_or, Nat.testBit_or, Nat.testBit_two_pow, Nat.testBit_two_pow, decide_eq_false (show ¬ i = r by omega), decide_eq_false (show ¬ i = c by omega), Bool.or_false, Bool.or_false] at hq2
      refine hz r c hr hc ?_
      rw [ea, bit_nI a ha r hr, bit_nI a ha c hc]
      exact hq2
theorem box_ok {N : WS} {b : Nat → Int32} {x w e c : Nat} (hx : x < 6) (hw : w ≤ 255) (he : e ≤ 8) (hc : c ≤ 999) (h : RN N b) : RN (sBoxSet N (nI x) (nI w) (nI e) (nI c)) (upd b (88 + x) (nI c)) := by
  obtain ⟨⟨r1, r2, r3, r4, r5⟩, ⟨n1, n2, n3, n4, n5⟩, hz⟩ := h
  have hwn : ∀ y, wwn (sBoxSet N (nI x) (nI w) (nI e) (nI c)) y = if y = x then nI w else wwn N y := fun y => by
    show upd (wwn N) (nI x).toNatClampNeg (nI w) y = _
    rw [cl8 (show x < 1000 by omega)]; rfl
  have hhi : ∀ y, whi (sBoxSet N (nI x) (nI w) (nI e) (nI c)) y = if y = x then nI e else whi N y := fun y => by
    show upd (whi N) (nI x).toNatClampNeg (nI e) y = _
    rw [cl8 (show x < 1000 by omega)]; rfl
  have hco : ∀ y, wco (sBoxSet N (nI x) (nI w) (nI e) (nI c)) y = if y = x then nI c else wco N y := fun y => by
    show upd (wco N) (nI x).toNatClampNeg (nI c) y = _
    rw [cl8 (show x < 1000 by omega)]; rfl
  refine ⟨⟨fun r hr => ⟨?_, ?_, ?_⟩, fun y hy => ?_, fun y hy => ?_, ?_, ?_⟩, ⟨n1, n2, fun y hy => ⟨?_, ?_, ?_⟩, n4, n5⟩, hz⟩
  · rw [pk_un (by omega)]; exact (r1 r hr).1
  · rw [pk_un (by omega)]; exact (r1 r hr).2.1
  · rw [pk_un (by omega)]; exact (r1 r hr).2.2
  · rw [pk_un (by omega)]; exact r2 y hy
  · rw [hco]
    by_cases c1 : y = x
    · rw [c1, pk_us, if_pos rfl]
    · rw [pk_un (by omega), if_neg c1]; exact r3 y hy
  · rw [pk_un (by omega)]; exact r4
  · rw [pk_un (by omega)]; exact r5
  · rw [hwn]
    split
    · exact ⟨w, by omega, rfl⟩
    · exact (n3 y hy).1
  · rw [hhi]
    split
    · exact ⟨e, by omega, rfl⟩
    · exact (n3 y hy).2.1
  · rw [hco]
    split
    · exact ⟨c, by omega, rfl⟩
    · exact (n3 y hy).2.2
