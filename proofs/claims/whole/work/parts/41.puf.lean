/-- acts: the debts as a table -/
def vfD (i j x : Nat) (e : Nat → Nat → Int32) (r c : Nat) : Int32 := if r = x ∧ c = i then 0 else if r = x ∧ c = j then e x i else if r = i ∧ c = x then 0 else if r = j ∧ c = x then e i x else e r c
theorem ix8 {r c r2 c2 : Nat} (hc : c < 8) (hc2 : c2 < 8) : r * 8 + c = r2 * 8 + c2 ↔ r = r2 ∧ c = c2 := by omega
theorem fMv_at {i j x : Nat} (hi : i < 8) (hj : j < 8) (hx : x < 8) (hij : i ≠ j) {d : Nat → Int32} (h0 : d (i * 8 + i) = 0) {r c : Nat} (hr : r < 8) (hc : c < 8) : fMv (nI i) (nI j) x d (r * 8 + c) = vfD i j x (fun r c => d (r * 8 + c)) r c := by
  unfold fMv mvD vfD
  rw [deb_cl hi hx, deb_cl hj hx, deb_cl hx hi, deb_cl hx hj]
  simp only [upd, ix8 hc hi, ix8 hc hx, ix8 hc hj, ix8 hi hx, ix8 hi hj]
  by_cases h1 : r = x ∧ c = i
  · rw [if_pos h1, if_pos h1]
  · rw [if_neg h1, if_neg h1]
    by_cases h2 : r = x ∧ c = j
    · rw [if_pos h2, if_pos h2]
      by_cases h3 : x = i ∧ i = x
      · rw [if_pos h3, h3.1, h0]
      · rw [if_neg h3, if_neg (by omega)]
    · rw [if_neg h2, if_neg h2]
theorem aMv_at {i j x : Nat} (hi : i < 8) (hj : j < 8) (hx : x < 8) (hij : i ≠ j) {f : Nat → Int32} {r c : Nat} (hr : r < 8) (hc : c < 8) : aMv i j x f (24 + (r * 8 + c)) = vfD i j x (fun r c => f (24 + (r * 8 + c))) r c := by
  unfold aMv vfD
  have e1 : (24 + (r * 8 + c) = 24 + 8 * x + j) = (r = x ∧ c = j) := propext (by omega)
  have e2 : (24 + (r * 8 + c) = 24 + 8 * j + x) = (r = j ∧ c = x) := propext (by omega)
  have e3 : (24 + (r * 8 + c) = 24 + 8 * x + i) = (r = x ∧ c = i) := propext (by omega)
  have e4 : (24 + (r * 8 + c) = 24 + 8 * i + x) = (r = i ∧ c = x) := propext (by omega)
  simp only [upd, e1, e2, e3, e4]
  rw [show 24 + 8 * x + i = 24 + (x * 8 + i) by omega, show 24 + 8 * i + x = 24 + (i * 8 + x) by omega]
  by_cases h1 : r = x ∧ c = i
  · rw [if_pos h1, if_neg (by omega), if_neg (by omega), if_pos h1]
  · rw [if_neg h1]
    by_cases h2 : r = x ∧ c = j
    · rw [if_pos h2, if_neg h1, if_pos h2]
    · rw [if_neg h2, if_neg h1, if_neg h2]
      by_cases h3 : r = i ∧ c = x
      · rw [if_neg (by omega), if_pos h3, if_pos h3]
      · rw [if_neg h3, if_neg h3]
theorem aMv_out {i j x : Nat} (hi : i < 8) (hj : j < 8) (hx : x < 8) {f : Nat → Int32} {y : Nat} (hy : y < 24 ∨ 88 ≤ y) : aMv i j x f y = f y := by
  unfold aMv
  rw [pk_un (by omega), pk_un (by omega), pk_un (by omega), pk_un (by omega)]
theorem aMv_outs {i j : Nat} (hi : i < 8) (hj : j < 8) {f : Nat → Int32} {y : Nat} (hy : y < 24 ∨ 88 ≤ y) : ∀ k, k ≤ 8 → iter (aMv i j) k f y = f y
  | 0, _ => rfl
  | k + 1, h => by rw [iter_s, aMv_out hi hj (by omega) hy, aMv_outs hi hj hy k (by omega)]
theorem vf_c {i j x : Nat} (hi : i < 8) (hx : x < 8) {e e2 : Nat → Nat → Int32} (h : ∀ r c, r < 8 → c < 8 → e r c = e2 r c) {r c : Nat} (hr : r < 8) (hc : c < 8) : vfD i j x e r c = vfD i j x e2 r c := by
  unfold vfD
  rw [h x i hx hi, h i x hi hx, h r c hr hc]
/-- what stays 0 -/
def GZ (i j k : Nat) (dz : Nat → Prop) (G : Nat → Nat → Int32) : Prop := (∀ r, G r r = 0) ∧ G j i = 0 ∧ (∀ x, x < k → G i x = 0 ∧ G x i = 0) ∧ (∀ q x, dz q → G q x = 0 ∧ G x q = 0)
theorem GZ.step {i j k : Nat} {dz : Nat → Prop} {G : Nat → Nat → Int32} (hij : i ≠ j) (hz : ∀ q, dz q → q ≠ i ∧ q ≠ j) (h : GZ i j k dz G) : GZ i j (k + 1) dz (vfD i j k G) := by
  obtain ⟨h1, h2, h3, h4⟩ := h
  refine ⟨fun r => ?_, ?_, fun y hy => ⟨?_, ?_⟩, fun q y hq => ⟨?_, ?_⟩⟩
  · unfold vfD
    by_cases a1 : r = k ∧ r = i
    · rw [if_pos a1]
    · rw [if_neg a1]
      by_cases a2 : r = k ∧ r = j
      · rw [if_pos a2, ← a2.1, a2.2]; exact h2
      · rw [if_neg a2, if_neg (by omega), if_neg (by omega)]; exact h1 r
  · unfold vfD
    by_cases a1 : j = k ∧ i = i
    · rw [if_pos a1]
    · rw [if_neg a1, if_neg (by omega), if_neg (by omega)]
      by_cases a2 : j = j ∧ i = k
      · rw [if_pos a2, ← a2.2]; exact h1 i
      · rw [if_neg a2]; exact h2
  · unfold vfD
    by_cases a1 : i = k ∧ y = i
    · rw [if_pos a1]
    · rw [if_neg a1]
      by_cases a2 : i = k ∧ y = j
      · rw [if_pos a2, ← a2.1]; exact h1 i
      · rw [if_neg a2]
        by_cases a3 : i = i ∧ y = k
        · rw [if_pos a3]
        · rw [if_neg a3, if_neg (by omega)]; exact (h3 y (by omega)).1
  · unfold vfD
    by_cases a1 : y = k ∧ i = i
    · rw [if_pos a1]
    · rw [if_neg a1, if_neg (by omega)]
      by_cases a3 : y = i ∧ i = k
      · rw [if_pos a3]
      · rw [if_neg a3]
        by_cases a4 : y = j ∧ i = k
        · rw [if_pos a4, ← a4.2]; exact h1 i
        · rw [if_neg a4]; exact (h3 y (by omega)).2
  · have := hz q hq
    unfold vfD
    by_cases a1 : q = k ∧ y = i
    · rw [if_pos a1]
    · rw [if_neg a1]
      by_cases a2 : q = k ∧ y = j
      · rw [if_pos a2, ← a2.1]; exact (h4 q i hq).1
      · rw [if_neg a2, if_neg (by omega), if_neg (by omega)]; exact (h4 q y hq).1
  · have := hz q hq
    unfold vfD
    rw [if_neg (by omega), if_neg (by omega)]
    by_cases a3 : y = i ∧ q = k
    · rw [if_pos a3]
    · rw [if_neg a3]
      by_cases a4 : y = j ∧ q = k
      · rw [if_pos a4, ← a4.2]; exact (h4 q i hq).2
      · rw [if_neg a4]; exact (h4 q y hq).2
theorem GZ.all {i j : Nat} {dz : Nat → Prop} {G : Nat → Nat → Int32} (hij : i ≠ j) (hz : ∀ q, dz q → q ≠ i ∧ q ≠ j) (h : GZ i j 0 dz G) : ∀ k, GZ i j k dz (iter (vfD i j) k G)
  | 0 => h
  | k + 1 => by rw [iter_s]; exact GZ.step hij hz (GZ.all hij hz h k)
theorem vf_rng {i j : Nat} (hi : i < 8) {G : Nat → Nat → Int32} (h : ∀ r c, r < 8 → c < 8 → ∃ a, a ≤ 999 ∧ G r c = nI a) : ∀ k, k ≤ 8 → ∀ r c, r < 8 → c < 8 → ∃ a, a ≤ 999 ∧ iter (vfD i j) k G r c = nI a
  | 0, _, r, c, hr, hc => h r c hr hc
  | k + 1, hk, r, c, hr, hc => by
    have ih := vf_rng (j := j) hi h k (by omega)
    rw [iter_s]
    unfold vfD
    split
    · exact ⟨0, by decide, rfl⟩
    · split
      · exact ih k i (by omega) hi
      · split
        · exact ⟨0, by decide, rfl⟩
        · split
          · exact ih i k hi (by omega)
          · exact ih r c hr hc
/-- who does not live owes nothing and is owed nothing, and nobody owes itself -/
def DZ (N : WS) : Prop := ∀ r c, r < 8 → c < 8 → (r = c ∨ sBit (wlv N) (nI r) = false ∨ sBit (wlv N) (nI c) = false) → wde N (r * 8 + c) = 0
def eD (d : Nat → Int32) (r c : Nat) : Int32 := if r < 8 ∧ c < 8 then d (r * 8 + c) else 0
theorem die_d {i j : Nat} (hi : i < 8) (hj : j < 8) (hij : i ≠ j) {d : Nat → Int32} (h0 : ∀ r, r < 8 → d (r * 8 + r) = 0) (hji : d (j * 8 + i) = 0) : ∀ k, k ≤ 8 → ∀ r c, r < 8 → c < 8 → iter (fMv (nI i) (nI j)) k d (r * 8 + c) = iter (vfD i j) k (eD d) r c
  | 0, _, r, c, hr, hc => by
    show d (r * 8 + c) = eD d r c
    unfold eD; rw [if_pos ⟨hr, hc⟩]
  | k + 1, hk, r, c, hr, hc => by
    have ih := die_d hi hj hij h0 hji k (by omega)
    have hG := GZ.all (dz := fun _ => False) hij (fun q h => h.elim) (G := eD d) ⟨fun r => by unfold eD; split; rename_i h; exact h0 r h.1; rfl, by unfold eD; rw [if_pos ⟨hj, hi⟩]; exact hji, fun x h => absurd h (by omega), fun q x h => h.elim⟩ k
    rw [iter_s, iter_s, fMv_at hi hj (by omega) hij (by rw [ih i i hi hi]; exact hG.1 i) hr hc]
    exact vf_c hi (by omega) (fun r c hr hc => ih r c hr hc) hr hc
theorem die_b {i j : Nat} (hi : i < 8) (hj : j < 8) (hij : i ≠ j) {f d : Nat → Int32} (h : ∀ r c, r < 8 → c < 8 → f (24 + (r * 8 + c)) = d (r * 8 + c)) : ∀ k, k ≤ 8 → ∀ r c, r < 8 → c < 8 → iter (aMv i j) k f (24 + (r * 8 + c)) = iter (vfD i j) k (eD d) r c
  | 0, _, r, c, hr, hc => by
    show f (24 + (r * 8 + c)) = eD d r c
    unfold eD; rw [if_pos ⟨hr, hc⟩]; exact h r c hr hc
  | k + 1, hk, r, c, hr, hc => by
    have ih := die_b hi hj hij h k (by omega)
    rw [iter_s, iter_s, aMv_at hi hj (by omega) hij hr hc]
    exact vf_c hi (by omega) (fun r c hr hc => ih r c hr hc) hr hc
theorem lv_i : ∀ a, a < 256 → ∀ i, i < 8 → a.testBit i = true → nI a &&& (((1 : Int32) <<< (nI i &&& 31)) ^^^ (-1)) = nI (a ^^^ 2 ^ i) ∧ nI a ^^^ ((1 : Int32) <<< (nI i &&& 31)) = nI (a ^^^ 2 ^ i) := by decide +kernel
theorem mk_i : ∀ a, a < 256 → ∃ c, c < 256 ∧ nI a &&& (nI a - 1) = nI c := by
  intro a ha
  by_cases h : a = 0
  · subst h; exact ⟨0, by decide, by decide⟩
  · refine ⟨a &&& (a - 1), Nat.lt_of_le_of_lt Nat.and_le_left ha, ?_⟩
    rw [show (1 : Int32) = nI 1 from rfl, pk_sub (by omega), nI_and]
theorem x_256 {a i : Nat} (ha : a < 256) (hi : i < 8) : a ^^^ 2 ^ i < 256 := Nat.xor_lt_two_pow (n := 8) ha (Nat.pow_lt_pow_right (by decide) hi)
/-- a book and a world, with what numbers they hold -/
def RN (T : WS) (b : Nat → Int32) : Prop := RB T b ∧ NOk T ∧ DZ T
theorem die_ok {T : WS} {b : Nat → Int32} {i j : Nat} (hi : i < 8) (hj : j < 8) (h : RN T b) (h0 : rDie b i j = 0) : RN (sBack T (nI i) (nI j)) (aDie b i j) := by
  obtain ⟨⟨r1, r2, r3, r4, r5⟩, ⟨n1, n2, n3, ⟨a, ha, ea⟩, n5⟩, hz⟩ := h
  unfold rDie at h0
  rw [r4, ea, bit_nI a ha i hi, bit_nI a ha j hj] at h0
  have hli : a.testBit i = true := by
    cases q : a.testBit i
    · rw [q, if_neg (by decide)] at h0; exact absurd h0 (by decide)
    · rfl
  rw [hli, if_pos rfl] at h0
  have hij : i ≠ j := fun q => by rw [if_pos q] at h0; exact absurd h0 (by decide)
  rw [if_neg hij] at h0
  have hlj : a.testBit j = false := by
    cases q : a.testBit j
    · rfl
    · rw [q, if_pos rfl] at h0; exact absurd h0 (by decide)
  have hd0 : ∀ r, r < 8 → wde T (r * 8 + r) = 0 := fun r hr => hz r r hr hr (Or.inl rfl)
  have hji : wde T (j * 8 + i) = 0 := hz j i hj hi (Or.inr (Or.inl (by rw [ea, bit_nI a ha j hj]; exact hlj)))
  have e1 : ∀ r c, r < 8 → c < 8 → wde (sBack T (nI i) (nI j)) (r * 8 + c) = iter (vfD i j) 8 (eD (wde T)) r c := fun r c hr hc => die_d hi hj hij hd0 hji 8 (Nat.le_refl 8) r c hr hc
  have hA : ∀ y, 24 ≤ y → y < 94 → aDi2 b i j y = b y := fun y h1 h2 => by
    simp only [aDi2, aDc, aDb, aDa, aDi1, aDi0, upd]
    repeat (first | rw [if_neg (by omega)])
  have e2 : ∀ r c, r < 8 → c < 8 → aDie b i j (24 + (r * 8 + c)) = iter (vfD i j) 8 (eD (wde T)) r c := fun r c hr hc => die_b hi hj hij (fun r c hr hc => by rw [hA _ (by omega) (by omega)]; exact r2 _ (by omega)) 8 (Nat.le_refl 8) r c hr hc
  have e3 : ∀ y, y < 24 ∨ 88 ≤ y → aDie b i j y = aDi2 b i j y := fun y hy => aMv_outs hi hj hy 8 (Nat.le_refl 8)
  have eb94 : b 94 = nI a := by rw [r4, ea]
  have hlv : wlv (sBack T (nI i) (nI j)) = nI ((a ^^^ 2 ^ i) ||| 2 ^ j) := by
    show (wlv T ^^^ (1 <<< (nI i &&& 31))) ||| (1 <<< (nI j &&& 31)) = _
    rw [ea, (lv_i a ha i hi hli).2, shl_nI j hj, nI_or]
  have hlt : (a ^^^ 2 ^ i) ||| 2 ^ j < 256 := or_256 (x_256 ha hi) (Nat.pow_lt_pow_right (by decide) hj)
  have hbit : ∀ r, r < 8 → sBit (wlv (sBack T (nI i) (nI j))) (nI r) = ((Bool.xor (a.testBit r) (decide (i = r))) || decide (j = r)) := fun r hr => by
    rw [hlv, bit_nI _ hlt r hr, Nat.testBit_or, Nat.testBit_xor, Nat.testBit_two_pow, Nat.testBit_two_pow]
  have hmk : ∀ r, r < 8 → wmk (sBack T (nI i) (nI j)) r = if r = i then 0 else if r = j then wmk T i &&& (wmk T i - 1) else wmk T r := fun r hr => by
    show upd (upd (wmk T) (nI j).toNatClampNeg (wmk T (nI i).toNatClampNeg &&& (wmk T (nI i).toNatClampNeg - 1))) (nI i).toNatClampNeg 0 r = _
    rw [cl8 (show i < 1000 by omega), cl8 (show j < 1000 by omega)]; rfl
  have hpu : ∀ r, r < 8 → wpu (sBack T (nI i) (nI j)) r = if r = i then 0 else if r = j then wpu T i / 2 else wpu T r := fun r hr => by
    show upd (upd (wpu T) (nI j).toNatClampNeg (wpu T (nI i).toNatClampNeg / 2)) (nI i).toNatClampNeg 0 r = _
    rw [cl8 (show i < 1000 by omega), cl8 (show j < 1000 by omega)]; rfl
  have hwa : ∀ r, r < 8 → wwa (sBack T (nI i) (nI j)) r = if r = j then nI i else wwa T r := fun r hr => by
    show upd (wwa T) (nI j).toNatClampNeg (nI i) r = _
    rw [cl8 (show j < 1000 by omega)]; rfl
  refine ⟨⟨fun r hr => ⟨?_, ?_, ?_⟩, fun y hy => ?_, fun x hx => ?_, ?_, ?_⟩, ⟨fun r hr => ⟨?_, ?_, ?_⟩, fun y hy => ?_, n3, ⟨_, hlt, hlv⟩, n5⟩, ?_⟩
  · rw [e3 r (by omega), hmk r hr]
    simp only [aDi2, aDc, aDb, aDa, aDi1, aDi0, upd]
    rw [if_neg (show ¬ r = 8 + i by omega)]
    by_cases c1 : r = i
    · rw [if_pos c1, if_pos c1]
    · rw [if_neg c1, if_neg c1, if_neg (by omega), if_neg (by omega)]
      by_cases c2 : r = j
      · rw [if_pos c2, if_pos c2, if_neg (show ¬ i = 94 by omega), (r1 i hi).1]
      · rw [if_neg c2, if_neg c2, if_neg (by omega)]; exact (r1 r hr).1
  · rw [e3 (8 + r) (by omega), hpu r hr]
    simp only [aDi2, aDc, aDb, aDa, aDi1, aDi0, upd]
    by_cases c1 : r = i
    · rw [if_pos c1, if_pos (by omega)]
    · rw [if_neg c1, if_neg (by omega), if_neg (by omega), if_neg (by omega)]
      by_cases c2 : r = j
      · rw [if_pos c2, if_pos (by omega), if_neg (by omega), if_neg (by omega), (r1 i hi).2.1]
      · rw [if_neg c2, if_neg (by omega), if_neg (by omega), if_neg (by omega)]; exact (r1 r hr).2.1
  · rw [e3 (16 + r) (by omega), hwa r hr]
    simp only [aDi2, aDc, aDb, aDa, aDi1, aDi0, upd]
    rw [if_neg (by omega), if_neg (by omega)]
    by_cases c2 : r = j
    · rw [if_pos c2, if_pos (by omega)]
    · rw [if_neg c2, if_neg (by omega), if_neg (by omega), if_neg (by omega), if_neg (by omega)]; exact (r1 r hr).2.2
  · have := e1 (y / 8) (y % 8) (by omega) (by omega)
    have h2 := e2 (y / 8) (y % 8) (by omega) (by omega)
    rw [show y / 8 * 8 + y % 8 = y by omega] at this h2
    rw [this, h2]
  · rw [e3 (88 + x) (by omega), hA _ (by omega) (by omega)]; exact r3 x hx
  · rw [e3 94 (by omega), hlv]
    simp only [aDi2, aDc, aDb, aDa, aDi1, aDi0, upd]
    rw [if_neg (by omega), if_neg (by omega), if_neg (by omega), if_neg (by omega), if_neg (by omega), if_pos trivial, eb94, (lv_i a ha i hi hli).1, shl_nI j hj, nI_or]
  · rw [e3 95 (by omega)]
    simp only [aDi2, aDc, aDb, aDa, aDi1, aDi0, upd]
    rw [if_neg (by omega), if_neg (by omega), if_neg (by omega), if_neg (by omega), if_neg (by omega), if_neg (by omega)]
    exact r5
  · rw [hmk r hr]
    split
    · exact ⟨0, by decide, rfl⟩
    · split
      · obtain ⟨v, v1, v2⟩ := (n1 i hi).1
        rw [v2]; exact mk_i v v1
      · exact (n1 r hr).1
  · rw [hpu r hr]
    split
    · exact ⟨0, by decide, rfl⟩
    · split
      · obtain ⟨v, v1, v2⟩ := (n1 i hi).2.1
        rw [v2, show (2 : Int32) = nI 2 from rfl, pk_div (by omega) (by decide) (by decide)]
        exact ⟨v / 2, by omega, rfl⟩
      · exact (n1 r hr).2.1
  · rw [hwa r hr]
    split
    · exact Or.inr ⟨i, hi, rfl⟩
    · exact (n1 r hr).2.2
  · have := e1 (y / 8) (y % 8) (by omega) (by omega)
    rw [show y / 8 * 8 + y % 8 = y by omega] at this
    rw [this]
    exact vf_rng hi (fun r c hr hc => by unfold eD; rw [if_pos ⟨hr, hc⟩]; exact n2 _ (by omega)) 8 (Nat.le_refl 8) _ _ (by omega) (by omega)
  · have hG := GZ.all (dz := fun q => q < 8 ∧ q ≠ i ∧ q ≠ j ∧ a.testBit q = false) hij (fun q h => ⟨h.2.1, h.2.2.1⟩) (G := eD (wde T)) ⟨fun r => by
        unfold eD; split
        · rename_i h; exact hd0 r h.1
        · rfl, by unfold eD; rw [if_pos ⟨hj, hi⟩]; exact hji, fun x h => absurd h (by omega), fun q x h => ⟨by
        unfold eD; split
        · rename_i h2; exact hz q x h2.1 h2.2 (Or.inr (Or.inl (by rw [ea, bit_nI a ha q h2.1]; exact h.2.2.2)))
        · rfl, by
        unfold eD; split
        · rename_i h2; exact hz x q h2.1 h2.2 (Or.inr (Or.inr (by rw [ea, bit_nI a ha q h2.2]; exact h.2.2.2)))
        · rfl⟩⟩ 8
    have hdead : ∀ r, r < 8 → sBit (wlv (sBack T (nI i) (nI j))) (nI r) = false → r = i ∨ (r < 8 ∧ r ≠ i ∧ r ≠ j ∧ a.testBit r = false) := by
      intro r hr hb
      rw [hbit r hr, Bool.or_eq_false_iff, decide_eq_false_iff_not] at hb
      by_cases hri : r = i
      · exact Or.inl hri
      · refine Or.inr ⟨hr, hri, fun z => hb.2 z.symm, ?_⟩
        have := hb.1
        rw [decide_eq_false (fun z => hri z.symm), Bool.xor_false] at this
        exact this
    intro r c hr hc hq
    rw [e1 r c hr hc]
    rcases hq with q | q | q
    · rw [q]; exact hG.1 c
    · rcases hdead r hr q with z | z
      · rw [z]; exact (hG.2.2.1 c hc).1
      · exact (hG.2.2.2 r c z).1
    · rcases hdead c hc q with z | z
      · rw [z]; exact (hG.2.2.1 r hr).2
      · exact (hG.2.2.2 c r z).2
