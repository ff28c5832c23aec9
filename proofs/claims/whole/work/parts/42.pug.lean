theorem lt999 {a : Nat} (h : a < 2000) : nI a < 999 ↔ a < 999 := nI_ltI (b := 999) (by omega) (by decide)
theorem le999 {a : Nat} (h : a < 2000) : nI a ≤ 999 ↔ a ≤ 999 := nI_leI (b := 999) (by omega) (by decide)
theorem lt99 {a : Nat} (h : a < 2000) : nI a < 99 ↔ a < 99 := nI_ltI (b := 99) (by omega) (by decide)
theorem eq99 {a : Nat} (h : a < 2000) : nI a = 99 ↔ a = 99 := nI_eqI (b := 99) (by omega) (by decide)
theorem fill_n {u q : Nat} (hu : u ≤ 999) (hq : q ≤ 999) : ∃ v, v ≤ 999 ∧ (if nI u + nI q < 999 then nI u + nI q else 999) = nI v ∧ (if nI u + nI q ≤ 999 then nI u + nI q else 999) = nI v := by
  rw [nI_add]
  by_cases h : u + q < 999
  · refine ⟨u + q, by omega, ?_, ?_⟩
    · rw [if_pos ((lt999 (show _ < 2000 by omega)).mpr h)]
    · rw [if_pos ((le999 (a := u + q) (by omega)).mpr (by omega))]
  · refine ⟨999, Nat.le_refl _, ?_, ?_⟩
    · rw [if_neg (fun z => h ((lt999 (show _ < 2000 by omega)).mp z))]; rfl
    · by_cases h2 : u + q ≤ 999
      · rw [if_pos ((le999 (show _ < 2000 by omega)).mpr h2), show u + q = 999 by omega]
      · rw [if_neg (fun z => h2 ((le999 (show _ < 2000 by omega)).mp z))]; rfl
theorem lend_ok {T : WS} {b : Nat → Int32} {i j q : Nat} (hi : i < 8) (hj : j < 8) (hq : q ≤ 9) (h : RN T b) (h0 : rLen b i j (nI q) = 0) : RN (sLend T (nI i) (nI j) (nI q)) (aLen b i j (nI q)) := by
  obtain ⟨⟨r1, r2, r3, r4, r5⟩, ⟨n1, n2, n3, ⟨a, ha, ea⟩, n5⟩, hz⟩ := h
  unfold rLen at h0
  rw [r4, ea, bit_nI a ha i hi, bit_nI a ha j hj] at h0
  have hli : a.testBit i = true := by
    cases q : a.testBit i
    · rw [q, if_neg (by decide)] at h0; exact absurd h0 (by decide)
    · rfl
  rw [hli, if_pos rfl] at h0
  have hij : i ≠ j := fun q => by rw [if_pos q] at h0; exact absurd h0 (by decide)
  rw [if_neg hij] at h0
  have hlj : a.testBit j = true := by
    cases q : a.testBit j
    · rw [q, if_neg (by decide)] at h0; exact absurd h0 (by decide)
    · rfl
  rw [hlj, if_pos rfl] at h0
  obtain ⟨p, p1, p2⟩ := (n1 i hi).2.1
  obtain ⟨p', p3, p4⟩ := (n1 j hj).2.1
  obtain ⟨v, v1, v2⟩ := n2 (j * 8 + i) (by omega)
  have eb : b (24 + 8 * j + i) = nI v := by
    rw [show 24 + 8 * j + i = 24 + (j * 8 + i) by omega, r2 _ (by omega), v2]
  rw [(r1 i hi).2.1, p2, eb, nI_add] at h0
  have hp : q ≤ p := by
    apply Nat.not_lt.mp
    intro z
    rw [if_pos ((nI_ltI (by omega) (by omega)).mpr z)] at h0; exact absurd h0 (by decide)
  rw [if_neg (fun z => absurd ((nI_ltI (by omega) (by omega)).mp z) (by omega))] at h0
  have hv : v + q ≤ 999 := by
    apply Nat.not_lt.mp
    intro z
    rw [if_neg (fun y => absurd ((le999 (show _ < 2000 by omega)).mp y) (by omega))] at h0; exact absurd h0 (by decide)
  obtain ⟨w, w1, w2, w3⟩ := fill_n p3 (show q ≤ 999 by omega)
  have hde : ∀ y, wde (sLend T (nI i) (nI j) (nI q)) y = if y = j * 8 + i then nI (v + q) else wde T y := fun y => by
    show upd (wde T) (sDeb (nI j) (nI i)).toNatClampNeg (wde T (sDeb (nI j) (nI i)).toNatClampNeg + nI q) y = _
    rw [deb_cl hj hi, v2, nI_add]; rfl
  have hpu : ∀ y, wpu (sLend T (nI i) (nI j) (nI q)) y = if y = j then nI w else if y = i then nI (p - q) else wpu T y := fun y => by
    show upd (upd (wpu T) (nI i).toNatClampNeg (wpu T (nI i).toNatClampNeg - nI q)) (nI j).toNatClampNeg (if upd (wpu T) (nI i).toNatClampNeg (wpu T (nI i).toNatClampNeg - nI q) (nI j).toNatClampNeg + nI q < 999 then upd (wpu T) (nI i).toNatClampNeg (wpu T (nI i).toNatClampNeg - nI q) (nI j).toNatClampNeg + nI q else 999) y = _
    rw [cl8 (show i < 1000 by omega), cl8 (show j < 1000 by omega), pk_un (show j ≠ i by omega), p2, p4, w2, pk_sub hp]; rfl
  have hb : ∀ y, aLen b i j (nI q) y = if y = 8 + j then nI w else if y = 8 + i then nI (p - q) else if y = 24 + (j * 8 + i) then nI (v + q) else b y := fun y => by
    unfold aLen aGet aLn1
    rw [pk_un (show 8 + j ≠ 8 + i by omega), pk_un (show 8 + j ≠ 24 + 8 * j + i by omega), pk_un (show 8 + i ≠ 24 + 8 * j + i by omega), (r1 i hi).2.1, (r1 j hj).2.1, p2, p4, w3, pk_sub hp, eb, nI_add, show 24 + 8 * j + i = 24 + (j * 8 + i) by omega]; rfl
  refine ⟨⟨fun r hr => ⟨?_, ?_, ?_⟩, fun y hy => ?_, fun x hx => ?_, ?_, ?_⟩, ⟨fun r hr => ⟨(n1 r hr).1, ?_, (n1 r hr).2.2⟩, fun y hy => ?_, n3, ⟨a, ha, ea⟩, n5⟩, ?_⟩
  · rw [hb, if_neg (by omega), if_neg (by omega), if_neg (by omega)]; exact (r1 r hr).1
  · rw [hb, hpu]
    by_cases c1 : r = j
    · rw [if_pos (by omega), if_pos c1]
    · rw [if_neg (by omega), if_neg c1]
      by_cases c2 : r = i
      · rw [if_pos (by omega), if_pos c2]
      · rw [if_neg (by omega), if_neg c2, if_neg (by omega)]; exact (r1 r hr).2.1
  · rw [hb, if_neg (by omega), if_neg (by omega), if_neg (by omega)]; exact (r1 r hr).2.2
  · rw [hb, hde, if_neg (by omega), if_neg (by omega)]
    by_cases c1 : y = j * 8 + i
    · rw [if_pos (by omega), if_pos c1]
    · rw [if_neg (by omega), if_neg c1]; exact r2 y hy
  · rw [hb, if_neg (by omega), if_neg (by omega), if_neg (by omega)]; exact r3 x hx
  · rw [hb, if_neg (by omega), if_neg (by omega), if_neg (by omega)]; exact r4
  · rw [hb, if_neg (by omega), if_neg (by omega), if_neg (by omega)]; exact r5
  · rw [hpu]
    split
    · exact ⟨w, w1, rfl⟩
    · split
      · exact ⟨p - q, by omega, rfl⟩
      · exact (n1 r hr).2.1
  · rw [hde]
    split
    · exact ⟨v + q, hv, rfl⟩
    · exact n2 y hy
  · intro r c hr hc hq2
    have hq2 : r = c ∨ sBit (wlv T) (nI r) = false ∨ sBit (wlv T) (nI c) = false := hq2
    rw [hde]
    by_cases c1 : r * 8 + c = j * 8 + i
    · have : r = j ∧ c = i := by omega
      rw [this.1, this.2, ea, bit_nI a ha i hi, bit_nI a ha j hj, hli, hlj] at hq2
      rcases hq2 with z | z | z
      · omega
      · cases z
      · cases z
    · rw [if_neg c1]; exact hz r c hr hc hq2
theorem try_ok {T : WS} {b : Nat → Int32} {i x : Nat} (hi : i < 8) (hx : x < 6) (h : RN T b) (hl : sLets T (nI x) (nI i) = true) : RN (sTry T (nI i) (nI x)) (aTry b i x) := by
  obtain ⟨⟨r1, r2, r3, r4, r5⟩, ⟨n1, n2, n3, n4, n5⟩, hz⟩ := h
  obtain ⟨p, p1, p2⟩ := (n1 i hi).2.1
  obtain ⟨v, v1, v2⟩ := (n3 x hx).2.2
  obtain ⟨w, w1, w2, w3⟩ := fill_n p1 v1
  unfold sTry
  rw [if_pos hl]
  have hpu : ∀ y, wpu (sco (sFill T (nI i) (wco T (nI x).toNatClampNeg)) (upd (wco T) (nI x).toNatClampNeg 0)) y = if y = i then nI w else wpu T y := fun y => by
    show upd (wpu T) (nI i).toNatClampNeg (if wpu T (nI i).toNatClampNeg + wco T (nI x).toNatClampNeg < 999 then wpu T (nI i).toNatClampNeg + wco T (nI x).toNatClampNeg else 999) y = _
    rw [cl8 (show i < 1000 by omega), cl8 (show x < 1000 by omega), p2, v2, w2]; rfl
  have hco : ∀ y, wco (sco (sFill T (nI i) (wco T (nI x).toNatClampNeg)) (upd (wco T) (nI x).toNatClampNeg 0)) y = if y = x then 0 else wco T y := fun y => by
    show upd (wco T) (nI x).toNatClampNeg 0 y = _
    rw [cl8 (show x < 1000 by omega)]; rfl
  have hb : ∀ y, aTry b i x y = if y = 88 + x then 0 else if y = 8 + i then nI w else b y := fun y => by
    unfold aTry aGet
    rw [(r1 i hi).2.1, r3 x hx, p2, v2, w3]; rfl
  refine ⟨⟨fun r hr => ⟨?_, ?_, ?_⟩, fun y hy => ?_, fun y hy => ?_, ?_, ?_⟩, ⟨fun r hr => ⟨(n1 r hr).1, ?_, (n1 r hr).2.2⟩, n2, fun y hy => ⟨(n3 y hy).1, (n3 y hy).2.1, ?_⟩, n4, n5⟩, hz⟩
  · rw [hb, if_neg (by omega), if_neg (by omega)]; exact (r1 r hr).1
  · rw [hb, hpu, if_neg (by omega)]
    by_cases c1 : r = i
    · rw [if_pos (by omega), if_pos c1]
    · rw [if_neg (by omega), if_neg c1]; exact (r1 r hr).2.1
  · rw [hb, if_neg (by omega), if_neg (by omega)]; exact (r1 r hr).2.2
  · rw [hb, if_neg (by omega), if_neg (by omega)]; exact r2 y hy
  · rw [hb, hco]
    by_cases c1 : y = x
    · rw [if_pos (by omega), if_pos c1]
    · rw [if_neg (by omega), if_neg (by omega), if_neg c1]; exact r3 y hy
  · rw [hb, if_neg (by omega), if_neg (by omega)]; exact r4
  · rw [hb, if_neg (by omega), if_neg (by omega)]; exact r5
  · rw [hpu]
    split
    · exact ⟨w, w1, rfl⟩
    · exact (n1 r hr).2.1
  · rw [hco]
    split
    · exact ⟨0, by decide, rfl⟩
    · exact (n3 y hy).2.2
theorem end_ok {T : WS} {b : Nat → Int32} (h : RN T b) (h0 : ¬ b 95 = 99) : RN (syr T (wyr T + 1)) (upd b 95 (b 95 + 1)) := by
  obtain ⟨⟨r1, r2, r3, r4, r5⟩, ⟨n1, n2, n3, n4, ⟨y, y1, y2⟩⟩, hz⟩ := h
  have hy : y < 99 := by
    apply Nat.not_le.mp
    intro z
    exact h0 (by rw [r5, y2, show y = 99 by omega]; rfl)
  refine ⟨⟨fun r hr => ⟨?_, ?_, ?_⟩, fun y hy => ?_, fun y hy => ?_, ?_, ?_⟩, ⟨n1, n2, n3, n4, ⟨y + 1, by omega, ?_⟩⟩, hz⟩
  · rw [pk_un (by omega)]; exact (r1 r hr).1
  · rw [pk_un (by omega)]; exact (r1 r hr).2.1
  · rw [pk_un (by omega)]; exact (r1 r hr).2.2
  · rw [pk_un (by omega)]; exact r2 y hy
  · rw [pk_un (by omega)]; exact r3 y hy
  · rw [pk_un (by omega)]; exact r4
  · rw [pk_us, r5]; rfl
  · show wyr T + 1 = _
    rw [y2, nI_succ]
/-- what a trial's world keeps of the world that it began with -/
def TK (N T : WS) : Prop := wsg T = wsg N ∧ wop T = wop N ∧ (∀ j, j < 8 → wsm T j = wsm N j) ∧ (∀ j, j < 6 → wwn T j = wwn N j ∧ whi T j = whi N j)
theorem liv_n {T : WS} {b : Nat → Int32} (h : RN T b) {i : Nat} (hi : i < 8) : sLiv T (nI i) = sBit (b 94) (nI i) := by
  unfold sLiv
  rw [soul_of hi, Bool.true_and, h.1.2.2.2.1]
theorem lets_n {N T : WS} {b : Nat → Int32} (h : RN T b) (hk : TK N T) {i x : Nat} (hi : i < 8) (hx : x < 6) : sLets T (nI x) (nI i) = (sBit (b 94) (nI i) && aOpn N b i x) := by
  rw [lets_nI hx, liv_n h hi]
  unfold aOpn
  rw [← felt_mb h.2.1 hx hi, (h.1.1 i hi).1, (hk.2.2.2 x hx).1, (hk.2.2.2 x hx).2]
theorem h_end {T : WS} {b : Nat → Int32} (h : RN T b) {f s c : Int32} : sHind T 0 f s c = rEnd b := by
  obtain ⟨y, y1, y2⟩ := h.2.1.2.2.2.2
  unfold sHind rEnd
  rw [if_pos rfl, h.1.2.2.2.2, y2]
  by_cases hy : y < 99
  · rw [if_pos ((lt99 (show _ < 2000 by omega)).mpr hy), if_neg (fun z => absurd ((eq99 (show _ < 2000 by omega)).mp z) (by omega))]
  · rw [if_neg (fun z => hy ((lt99 (show _ < 2000 by omega)).mp z)), if_pos (by rw [show y = 99 by omega]; rfl)]
theorem h_die {T : WS} {b : Nat → Int32} (h : RN T b) {i j : Nat} (hi : i < 8) (hj : j < 8) {c : Int32} : sHind T 1 (nI i) (nI j) c = rDie b i j := by
  unfold sHind rDie
  rw [if_neg (by decide), liv_n h hi, liv_n h hj, soul_of hj]
  cases hb : sBit (b 94) (nI i)
  · rfl
  · rw [if_neg (by decide), if_neg (by decide), if_pos rfl]
    by_cases hij : i = j
    · rw [if_pos hij, if_pos (by rw [hij])]; rfl
    · rw [if_neg hij, if_neg (fun z => hij ((nI_eqI (by omega) (by omega)).mp z)), if_pos rfl]
      cases hb2 : sBit (b 94) (nI j) <;> simp
theorem h_len {T : WS} {b : Nat → Int32} (h : RN T b) {i j : Nat} (hi : i < 8) (hj : j < 8) {c : Int32} : sHind T 2 (nI i) (nI j) c = rLen b i j c := by
  unfold sHind rLen
  rw [if_neg (by decide), liv_n h hi, liv_n h hj]
  cases hb : sBit (b 94) (nI i)
  · rfl
  · rw [if_neg (by decide), if_neg (by decide), if_pos rfl]
    by_cases hij : i = j
    · rw [if_pos hij, if_pos (by rw [hij])]
    · rw [if_neg hij, if_neg (fun z => hij ((nI_eqI (by omega) (by omega)).mp z)), if_neg (by decide)]
      cases hb2 : sBit (b 94) (nI j)
      · rfl
      · rw [if_neg (by decide), if_pos rfl]
        unfold sCanL
        rw [cl8 (show i < 1000 by omega), deb_cl hj hi, (h.1.1 i hi).2.1, show 24 + 8 * j + i = 24 + (j * 8 + i) by omega, h.1.2.1 (j * 8 + i) (by omega)]
        by_cases c1 : wpu T i < c
        · rw [if_pos c1, decide_eq_false (Int32.not_le.mpr c1)]; rfl
        · rw [if_neg c1, decide_eq_true (Int32.not_lt.mp c1), Bool.true_and]
          by_cases c2 : wde T (j * 8 + i) + c ≤ 999
          · rw [if_pos c2, decide_eq_true c2]; rfl
          · rw [if_neg c2, decide_eq_false c2]; rfl
theorem h_try {T : WS} {b : Nat → Int32} (h : RN T b) {i : Nat} (hi : i < 8) {s c : Int32} : sHind T 3 (nI i) s c = if sBit (b 94) (nI i) then 0 else 1 := by
  unfold sHind
  rw [if_neg (by decide), liv_n h hi]
  cases hb : sBit (b 94) (nI i)
  · rfl
  · rw [if_neg (by decide), if_pos rfl]; rfl
theorem p_end {T : WS} {f s c : Int32} : sPerf T 0 f s c = syr T (wyr T + 1) := by unfold sPerf; rw [if_pos rfl]
theorem p_die {T : WS} {f s c : Int32} : sPerf T 1 f s c = sBack T f s := by unfold sPerf; rw [if_neg (by decide), if_pos rfl]
theorem p_len {T : WS} {f s c : Int32} : sPerf T 2 f s c = sLend T f s c := by unfold sPerf; rw [if_neg (by decide), if_neg (by decide), if_pos rfl]
theorem p_try {T : WS} {f s c : Int32} : sPerf T 3 f s c = sTry T f s := by unfold sPerf; rw [if_neg (by decide), if_neg (by decide), if_neg (by decide)]
theorem TK.tr {N T T2 : WS} (h : TK N T) (g : TK T T2) : TK N T2 := ⟨g.1.trans h.1, g.2.1.trans h.2.1, fun j hj => (g.2.2.1 j hj).trans (h.2.2.1 j hj), fun j hj => ⟨(g.2.2.2 j hj).1.trans (h.2.2.2 j hj).1, (g.2.2.2 j hj).2.trans (h.2.2.2 j hj).2⟩⟩
theorem TK.rf (N : WS) : TK N N := ⟨rfl, rfl, fun _ _ => rfl, fun _ _ => ⟨rfl, rfl⟩⟩
theorem tk_end (T : WS) (x : Int32) : TK T (syr T x) := ⟨rfl, rfl, fun _ _ => rfl, fun _ _ => ⟨rfl, rfl⟩⟩
theorem tk_die (T : WS) (f s : Int32) : TK T (sBack T f s) := ⟨rfl, rfl, fun _ _ => rfl, fun _ _ => ⟨rfl, rfl⟩⟩
theorem tk_len (T : WS) (f s c : Int32) : TK T (sLend T f s c) := ⟨rfl, rfl, fun _ _ => rfl, fun _ _ => ⟨rfl, rfl⟩⟩
theorem tk_try (T : WS) (f s : Int32) : TK T (sTry T f s) := by
  unfold sTry; split
  · exact ⟨rfl, rfl, fun _ _ => rfl, fun _ _ => ⟨rfl, rfl⟩⟩
  · exact TK.rf T
