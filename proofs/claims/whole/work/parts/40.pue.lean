/-- rings -/
def crC (N : WS) (x y : Nat) : Bool := decide (0 < wde N (sDeb (nI x) (nI y)).toNatClampNeg)
def crN (N : WS) (x : Nat) : Nat := bN (crC N x) 8
theorem cr_lt (N : WS) (x : Nat) : crN N x < 256 := bN_lt _ 8
theorem cred_n (N : WS) (x : Nat) : sCred N (nI x) = nI (crN N x) := bitsOf_nI _ 8 (Nat.le_refl 8)
def rdN (C : Nat → Nat) (j f : Nat) : Nat := if f.testBit j then f ||| C j else f
def rnN (C : Nat → Nat) (f : Nat) : Nat := iter (rdN C) 8 f
def mdN (C : Nat → Nat) (s x f : Nat) : Nat := if (decide (x = s) || f.testBit x) then f ||| C x else f
def mrN (C : Nat → Nat) (s f : Nat) : Nat := iter (mdN C s) 8 f
theorem or_256 {a b : Nat} (ha : a < 256) (hb : b < 256) : a ||| b < 256 := Nat.or_lt_two_pow (n := 8) ha hb
theorem rd_n (N : WS) {f : Nat} (hf : f < 256) : ∀ k, k ≤ 8 → iter (fCb N) k (nI f) = nI (iter (rdN (crN N)) k f) ∧ iter (rdN (crN N)) k f < 256
  | 0, _ => ⟨rfl, hf⟩
  | k + 1, hk => by
    obtain ⟨h1, h2⟩ := rd_n N hf k (by omega)
    rw [iter_s, iter_s, h1]
    generalize iter (rdN (crN N)) k f = v at h2 ⊢
    unfold fCb rdN
    rw [bit_nI v h2 k (by omega), cred_n]
    split
    · exact ⟨nI_or _ _, or_256 h2 (cr_lt N k)⟩
    · exact ⟨rfl, h2⟩
theorem rn_n (N : WS) {f : Nat} (hf : f < 256) : ∀ k, iter (fun _ a => iter (fCb N) 8 a) k (nI f) = nI (iter (fun _ => rnN (crN N)) k f) ∧ iter (fun _ => rnN (crN N)) k f < 256
  | 0 => ⟨rfl, hf⟩
  | k + 1 => by
    obtain ⟨h1, h2⟩ := rn_n N hf k
    rw [iter_s, iter_s, h1]
    exact rd_n N h2 8 (Nat.le_refl 8)
theorem ry_n (N : WS) (s : Nat) {x f : Nat} (hx : x < 8) (hf : f < 256) : ∀ k, k ≤ 8 → iter (fRy N s x) k (nI f) = nI (if (decide (x = s) || f.testBit x) then f ||| bN (crC N x) k else f)
  | 0, _ => by
    show nI f = nI (if _ then f ||| 0 else f)
    rw [Nat.or_zero, ite_self]
  | k + 1, hk => by
    have ih := ry_n N s hx hf k (by omega)
    rw [iter_s, ih]
    cases hP : (decide (x = s) || f.testBit x)
    · rw [if_neg (by decide), if_neg (by decide)]
      unfold fRy
      rw [bit_nI f hf x hx, hP, Bool.false_and]; rfl
    · rw [if_pos rfl, if_pos rfl]
      have hv : f ||| bN (crC N x) k < 256 := or_256 hf (Nat.lt_of_lt_of_le (bN_lt _ k) (Nat.pow_le_pow_right (n := 2) (by decide) (show k ≤ 8 by omega)))
      unfold fRy
      have hb : (decide (x = s) || sBit (nI (f ||| bN (crC N x) k)) (nI x)) = true := by
        rw [bit_nI _ hv x hx, Nat.testBit_or]
        revert hP
        cases decide (x = s) <;> cases f.testBit x <;> simp
      rw [hb, Bool.true_and, show decide (0 < wde N (sDeb (nI x) (nI k)).toNatClampNeg) = crC N x k from rfl]
      show _ = nI (f ||| (if crC N x k then bN (crC N x) k ||| 2 ^ k else bN (crC N x) k))
      cases hc : crC N x k
      · rfl
      · rw [if_pos rfl, if_pos rfl, shl_nI k (by omega), nI_or, Nat.or_assoc]
theorem md_n (N : WS) (s : Nat) {f : Nat} (hf : f < 256) : ∀ k, k ≤ 8 → iter (fRx N s) k (nI f) = nI (iter (mdN (crN N) s) k f) ∧ iter (mdN (crN N) s) k f < 256
  | 0, _ => ⟨rfl, hf⟩
  | k + 1, hk => by
    obtain ⟨h1, h2⟩ := md_n N s hf k (by omega)
    rw [iter_s, iter_s, h1]
    generalize iter (mdN (crN N) s) k f = v at h2 ⊢
    unfold fRx mdN
    rw [ry_n N s (by omega) h2 8 (Nat.le_refl 8)]
    refine ⟨rfl, ?_⟩
    split
    · exact or_256 h2 (cr_lt N k)
    · exact h2
theorem mr_n (N : WS) (s : Nat) : ∀ k, iter (fRi N s) k 0 = nI (iter (fun _ => mrN (crN N) s) k 0) ∧ iter (fun _ => mrN (crN N) s) k 0 < 256
  | 0 => ⟨rfl, show (0 : Nat) < 256 by decide⟩
  | k + 1 => by
    obtain ⟨h1, h2⟩ := mr_n N s k
    rw [iter_s, iter_s, h1]
    exact md_n N s h2 8 (Nat.le_refl 8)
def Sb (a b : Nat) : Prop := ∀ j, a.testBit j = true → b.testBit j = true
theorem Sb.rf (a : Nat) : Sb a a := fun _ h => h
theorem Sb.tr {a b c : Nat} (h : Sb a b) (g : Sb b c) : Sb a c := fun j q => g j (h j q)
theorem Sb.orl (a b : Nat) : Sb a (a ||| b) := fun j q => by rw [Nat.testBit_or, q, Bool.true_or]
theorem Sb.orr (a b : Nat) : Sb b (a ||| b) := fun j q => by rw [Nat.testBit_or, q, Bool.or_true]
theorem Sb.lub {a b c : Nat} (h : Sb a c) (g : Sb b c) : Sb (a ||| b) c := fun j q => by
  rw [Nat.testBit_or, Bool.or_eq_true] at q
  exact q.elim (h j) (g j)
theorem Sb.as {a b : Nat} (h : Sb a b) (g : Sb b a) : a = b := Nat.eq_of_testBit_eq fun j => by
  cases h1 : a.testBit j
  · cases h2 : b.testBit j
    · rfl
    · exact absurd (g j h2) (by rw [h1]; decide)
  · exact (h j h1).symm
theorem Sb.or {a b : Nat} (h : Sb a b) : a ||| b = b := Sb.as (Sb.lub h (Sb.rf b)) (Sb.orr a b)
theorem rd_ext (C : Nat → Nat) (j f : Nat) : Sb f (rdN C j f) := by
  unfold rdN; split
  · exact Sb.orl _ _
  · exact Sb.rf _
theorem rd_mono (C : Nat → Nat) (j : Nat) {f g : Nat} (h : Sb f g) : Sb (rdN C j f) (rdN C j g) := by
  unfold rdN
  cases hf : f.testBit j
  · rw [if_neg (by decide)]; exact h.tr (rd_ext C j g)
  · rw [if_pos rfl, if_pos (h j hf)]
    exact Sb.lub (h.tr (Sb.orl _ _)) (Sb.orr _ _)
theorem rdk_ext (C : Nat → Nat) (f : Nat) : ∀ k, Sb f (iter (rdN C) k f)
  | 0 => Sb.rf f
  | k + 1 => by rw [iter_s]; exact (rdk_ext C f k).tr (rd_ext C k _)
theorem rdk_mono (C : Nat → Nat) {f g : Nat} (h : Sb f g) : ∀ k, Sb (iter (rdN C) k f) (iter (rdN C) k g)
  | 0 => h
  | k + 1 => by rw [iter_s, iter_s]; exact rd_mono C k (rdk_mono C h k)
theorem rn_ext (C : Nat → Nat) (f : Nat) : Sb f (rnN C f) := rdk_ext C f 8
theorem rn_mono (C : Nat → Nat) {f g : Nat} (h : Sb f g) : Sb (rnN C f) (rnN C g) := rdk_mono C h 8
theorem md_rd (C : Nat → Nat) {s f : Nat} (h : Sb (C s) f) (x : Nat) : mdN C s x f = rdN C x f := by
  unfold mdN rdN
  have e : f ||| C s = f := Sb.as (Sb.lub (Sb.rf f) h) (Sb.orl _ _)
  by_cases hx : x = s
  · subst hx
    rw [decide_eq_true rfl, Bool.true_or, if_pos rfl, e, ite_self]
  · rw [decide_eq_false hx, Bool.false_or]
theorem mrk_rn (C : Nat → Nat) {s f : Nat} (h : Sb (C s) f) : ∀ k, iter (mdN C s) k f = iter (rdN C) k f
  | 0 => rfl
  | k + 1 => by rw [iter_s, iter_s, mrk_rn C h k, md_rd C (h.tr (rdk_ext C f k))]
theorem mr_rn (C : Nat → Nat) {s f : Nat} (h : Sb (C s) f) : mrN C s f = rnN C f := mrk_rn C h 8
theorem m1_lo (C : Nat → Nat) (s : Nat) : ∀ k, s < k → Sb (C s) (iter (mdN C s) k 0)
  | 0, h => absurd h (by omega)
  | k + 1, h => by
    rw [iter_s]
    by_cases hk : s = k
    · subst hk
      unfold mdN
      rw [decide_eq_true rfl, Bool.true_or, if_pos rfl]
      exact Sb.orr _ _
    · rw [md_rd C (m1_lo C s k (by omega))]
      exact (m1_lo C s k (by omega)).tr (rd_ext C k _)
theorem m1_hi (C : Nat → Nat) (s : Nat) : ∀ k, Sb (iter (mdN C s) k 0) (iter (rdN C) k (C s))
  | 0 => fun j q => by
    have : (0 : Nat).testBit j = true := q
    rw [Nat.zero_testBit] at this; cases this
  | k + 1 => by
    rw [iter_s, iter_s]
    have ih := m1_hi C s k
    have hc := rdk_ext C (C s) k
    generalize iter (mdN C s) k 0 = f at ih ⊢
    generalize iter (rdN C) k (C s) = g at ih hc ⊢
    unfold mdN
    by_cases hx : k = s
    · subst hx
      rw [decide_eq_true rfl, Bool.true_or, if_pos rfl]
      exact (Sb.lub ih hc).tr (rd_ext C k g)
    · rw [decide_eq_false hx, Bool.false_or]
      exact rd_mono C k ih
theorem sandw (C : Nat → Nat) {s : Nat} (hs : s < 8) : ∀ k, Sb (C s) (iter (fun _ => mrN C s) (k + 1) 0) ∧ Sb (iter (fun _ => mrN C s) (k + 1) 0) (iter (fun _ => rnN C) (k + 1) (C s)) ∧ Sb (iter (fun _ => rnN C) k (C s)) (iter (fun _ => mrN C s) (k + 1) 0)
  | 0 => by
    rw [iter_s, iter_s, ← iter_0, ← iter_0]
    exact ⟨m1_lo C s 8 hs, m1_hi C s 8, m1_lo C s 8 hs⟩
  | k + 1 => by
    obtain ⟨h1, h2, h3⟩ := sandw C hs k
    rw [iter_s (fun _ => mrN C s) (k + 1), iter_s (fun _ => rnN C) (k + 1), mr_rn C h1]
    refine ⟨h1.tr (rn_ext C _), rn_mono C h2, ?_⟩
    rw [iter_s (fun _ => rnN C) k]
    exact rn_mono C h3
def usB (f g : Nat) : Bool := !(f ||| g == g) || ((f == g) || decide (unset g < unset f))
theorem usB_ok : ∀ f, f < 256 → ∀ g, g < 256 → usB f g = true := by decide +kernel
theorem us_lt {f g : Nat} (hf : f < 256) (hg : g < 256) (h : Sb f g) (hne : ¬ f = g) : unset g < unset f := by
  have := usB_ok f hf g hg
  unfold usB at this
  rw [h.or, beq_self_eq_true, Bool.not_true, Bool.false_or, beq_eq_false_iff_ne.mpr hne, Bool.false_or, decide_eq_true_eq] at this
  exact this
theorem us_7 : ∀ v, v < 256 → v ≠ 0 → unset v < 8 := by decide +kernel
theorem rdk_0 (C : Nat → Nat) : ∀ k, iter (rdN C) k 0 = 0
  | 0 => rfl
  | k + 1 => by rw [iter_s, rdk_0 C k]; unfold rdN; rw [Nat.zero_testBit]; rfl
theorem rnk_0 (C : Nat → Nat) : ∀ k, iter (fun _ => rnN C) k 0 = 0
  | 0 => rfl
  | k + 1 => by rw [iter_s, rnk_0 C k]; exact rdk_0 C 8
theorem stab (N : WS) (s : Nat) : ∀ k, iter (fun _ => rnN (crN N)) k (crN N s) = iter (fun _ => rnN (crN N)) (k + 1) (crN N s) ∨ unset (iter (fun _ => rnN (crN N)) (k + 1) (crN N s)) + (k + 1) ≤ unset (crN N s)
  | 0 => by
    have h2 := (rn_n N (cr_lt N s) 1).2
    rw [iter_s, ← iter_0] at h2 ⊢
    by_cases h : crN N s = rnN (crN N) (crN N s)
    · exact Or.inl h
    · exact Or.inr (us_lt (cr_lt N s) h2 (rn_ext _ _) h)
  | k + 1 => by
    have h2 := (rn_n N (cr_lt N s) (k + 1)).2
    have h3 := (rn_n N (cr_lt N s) (k + 1 + 1)).2
    rcases stab N s k with h | h
    · left
      rw [iter_s _ (k + 1), ← h, ← iter_s (fun _ => rnN (crN N)) k]
      exact h
    · rw [iter_s _ (k + 1)] at h3 ⊢
      by_cases h4 : iter (fun _ => rnN (crN N)) (k + 1) (crN N s) = rnN (crN N) (iter (fun _ => rnN (crN N)) (k + 1) (crN N s))
      · exact Or.inl h4
      · have := us_lt h2 h3 (rn_ext _ _) h4
        right; omega
theorem far_eq (N : WS) {s : Nat} (hs : s < 8) : sBehind N (nI s) = mFar N s := by
  unfold sBehind mFar
  rw [cred_n, (rn_n N (cr_lt N s) 8).1, (mr_n N s 8).1]
  congr 1
  obtain ⟨h1, h2, h3⟩ := sandw (crN N) hs 7
  have e : iter (fun _ => rnN (crN N)) 7 (crN N s) = iter (fun _ => rnN (crN N)) (7 + 1) (crN N s) := by
    by_cases h0 : crN N s = 0
    · rw [h0, rnk_0, rnk_0]
    · rcases stab N s 7 with h | h
      · exact h
      · have := us_7 _ (cr_lt N s) h0
        omega
  rw [e] at h3
  exact Sb.as h3 h2
theorem rings_eq (N : WS) : cRing N = mRing N := by
  unfold cRing mRing bitsOf
  refine iter_c 8 (fun k hk a => ?_) _
  show (if sBit (sBehind N (nI k)) (nI k) = true then _ else _) = (if sBit (mFar N k) (nI k) = true then _ else _)
  rw [far_eq N hk]
