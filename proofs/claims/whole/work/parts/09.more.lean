def b2i (b : Bool) : Int32 := if b then 1 else 0
theorem b2i_0 {b : Bool} : b2i b = 0 ↔ b = false := by cases b <;> decide
theorem b2i_n {b : Bool} : ¬ b2i b = 0 ↔ b = true := by cases b <;> decide
theorem b2i_nar (b : Bool) : narrow .boolean (.int (b2i b)) = .int (b2i b) := by cases b <;> rfl
def iter {α : Type} (f : Nat → α → α) : Nat → α → α
  | 0, a => a
  | n + 1, a => f n (iter f n a)
theorem pm_of2 {l : Launch} {D : va_G} {Y : PMth} {d mc ms nA n0 : Nat} {args : List Value} {h h2 : PH} {r : Option Value} (hb : KBp Y nA) (hn : h.length = n0) (L : List (Option Value)) (hL : ∀ B, pL B 0 L = lv_args 0 (args.map (pv B))) (hlen : ∀ B, (lg_sl (args.map (pv B))).length ≤ Y.2.2.1) (k : Wp l D Y (pRm d mc ms) n0 (fun _ _ _ => True) (mE D n0 mc ms r h2) 0 L [] h 0) : PM l D Y d args h mc ms r h2 := by
  subst hn
  exact pm_of hb L hL hlen k
theorem rc00 {d a b n : Nat} (hab : a = b) (hn : n ≤ 0) : a - b + 0 ≤ (pRm d 0 0).cells ∧ n + 0 ≤ (pRm d 0 0).slots := ⟨by show a - b + 0 ≤ 0; omega, by show n + 0 ≤ 0; omega⟩
theorem rc01 {d a b n : Nat} (hab : a = b) (hn : n ≤ 0) : a - b ≤ (pRm d 0 0).cells ∧ n ≤ (pRm d 0 0).slots := ⟨by show a - b ≤ 0; omega, by show n ≤ 0; omega⟩
section PMO
variable {l : Launch} {D : va_G} {Y : PMth} {R : Room} {n0 : Nat} {X : State → Array Value → Nat → Prop} {E : List Frame → Array Value → State → Nat → State → Prop} {pc nx : Nat} {L : List (Option Value)} {st st0 : List Value} {h h2 : PH} {n : Nat}
theorem w_heq (hh : h = h2) (k : Wp l D Y R n0 X E pc L st h2 n) : Wp l D Y R n0 X E pc L st h n := hh ▸ k
theorem w_top {x y : Int32} (hh : x = y) (k : Wp l D Y R n0 X E pc L (.int y :: st) h n) : Wp l D Y R n0 X E pc L (.int x :: st) h n := hh ▸ k
/-- tests of a truth value -/
theorem w_zif_eq {b : Bool} {off : Int} {tgt : Nat} (hd : dc Y.2.1 pc (.ifCond .eq off) 3 nx) (ht : (pc : Int) + off = (tgt : Int)) (kt : b = false → Wp l D Y R n0 X E tgt L st h n) (kf : b = true → Wp l D Y R n0 X E nx L st h n) : Wp l D Y R n0 X E pc L (.int (b2i b) :: st) h n :=
  w_if_eq hd ht (fun c => kt (b2i_0.mp c)) (fun c => kf (b2i_n.mp c))
theorem w_zif_ne {b : Bool} {off : Int} {tgt : Nat} (hd : dc Y.2.1 pc (.ifCond .ne off) 3 nx) (ht : (pc : Int) + off = (tgt : Int)) (kt : b = true → Wp l D Y R n0 X E tgt L st h n) (kf : b = false → Wp l D Y R n0 X E nx L st h n) : Wp l D Y R n0 X E pc L (.int (b2i b) :: st) h n :=
  w_if_ne hd ht (fun c => kt (b2i_n.mp c)) (fun c => kf (b2i_0.mp c))
theorem mrg {P : Prop} [Decidable P] {a b : Int32} {A B : Prop} {F : Int32 → Prop} (hA : F a → A) (hB : F b → B) (k : F (if P then a else b)) : (P → A) ∧ (¬ P → B) := by
  constructor
  · intro hp; rw [if_pos hp] at k; exact hA k
  · intro hp; rw [if_neg hp] at k; exact hB k
theorem w_tif_eq {x a b : Int32} {pJ : Nat} {off : Int} {tgt : Nat} (hd : dc Y.2.1 pc (.ifCond .eq off) 3 nx) (ht : (pc : Int) + off = (tgt : Int)) (hA : x = 0 → Wp l D Y R n0 X E pJ L (.int a :: st) h n → Wp l D Y R n0 X E tgt L st h n) (hB : ¬ x = 0 → Wp l D Y R n0 X E pJ L (.int b :: st) h n → Wp l D Y R n0 X E nx L st h n) (k : Wp l D Y R n0 X E pJ L (.int (if x = 0 then a else b) :: st) h n) : Wp l D Y R n0 X E pc L (.int x :: st) h n :=
  w_if_eq hd ht (fun c => hA c (by rw [if_pos c] at k; exact k)) (fun c => hB c (by rw [if_neg c] at k; exact k))
theorem w_ticmp_eq {x y a b : Int32} {pJ : Nat} {off : Int} {tgt : Nat} (hd : dc Y.2.1 pc (.if_icmp .eq off) 3 nx) (ht : (pc : Int) + off = (tgt : Int)) (hA : x = y → Wp l D Y R n0 X E pJ L (.int a :: st) h n → Wp l D Y R n0 X E tgt L st h n) (hB : ¬ x = y → Wp l D Y R n0 X E pJ L (.int b :: st) h n → Wp l D Y R n0 X E nx L st h n) (k : Wp l D Y R n0 X E pJ L (.int (if x = y then a else b) :: st) h n) : Wp l D Y R n0 X E pc L (.int y :: .int x :: st) h n :=
  w_icmp_eq hd ht (fun c => hA c (by rw [if_pos c] at k; exact k)) (fun c => hB c (by rw [if_neg c] at k; exact k))
theorem w_tif_ne {x a b : Int32} {pJ : Nat} {off : Int} {tgt : Nat} (hd : dc Y.2.1 pc (.ifCond .ne off) 3 nx) (ht : (pc : Int) + off = (tgt : Int)) (hA : ¬ x = 0 → Wp l D Y R n0 X E pJ L (.int a :: st) h n → Wp l D Y R n0 X E tgt L st h n) (hB : x = 0 → Wp l D Y R n0 X E pJ L (.int b :: st) h n → Wp l D Y R n0 X E nx L st h n) (k : Wp l D Y R n0 X E pJ L (.int (if x = 0 then b else a) :: st) h n) : Wp l D Y R n0 X E pc L (.int x :: st) h n :=
  w_if_ne hd ht (fun c => hA c (by rw [if_neg c] at k; exact k)) (fun c => hB c (by rw [if_pos c] at k; exact k))
theorem w_ticmp_ne {x y a b : Int32} {pJ : Nat} {off : Int} {tgt : Nat} (hd : dc Y.2.1 pc (.if_icmp .ne off) 3 nx) (ht : (pc : Int) + off = (tgt : Int)) (hA : ¬ x = y → Wp l D Y R n0 X E pJ L (.int a :: st) h n → Wp l D Y R n0 X E tgt L st h n) (hB : x = y → Wp l D Y R n0 X E pJ L (.int b :: st) h n → Wp l D Y R n0 X E nx L st h n) (k : Wp l D Y R n0 X E pJ L (.int (if x = y then b else a) :: st) h n) : Wp l D Y R n0 X E pc L (.int y :: .int x :: st) h n :=
  w_icmp_ne hd ht (fun c => hA c (by rw [if_neg c] at k; exact k)) (fun c => hB c (by rw [if_pos c] at k; exact k))
theorem w_tif_lt {x a b : Int32} {pJ : Nat} {off : Int} {tgt : Nat} (hd : dc Y.2.1 pc (.ifCond .lt off) 3 nx) (ht : (pc : Int) + off = (tgt : Int)) (hA : x < 0 → Wp l D Y R n0 X E pJ L (.int a :: st) h n → Wp l D Y R n0 X E tgt L st h n) (hB : ¬ x < 0 → Wp l D Y R n0 X E pJ L (.int b :: st) h n → Wp l D Y R n0 X E nx L st h n) (k : Wp l D Y R n0 X E pJ L (.int (if x < 0 then a else b) :: st) h n) : Wp l D Y R n0 X E pc L (.int x :: st) h n :=
  w_if_lt hd ht (fun c => hA c (by rw [if_pos c] at k; exact k)) (fun c => hB c (by rw [if_neg c] at k; exact k))
theorem w_ticmp_lt {x y a b : Int32} {pJ : Nat} {off : Int} {tgt : Nat} (hd : dc Y.2.1 pc (.if_icmp .lt off) 3 nx) (ht : (pc : Int) + off = (tgt : Int)) (hA : x < y → Wp l D Y R n0 X E pJ L (.int a :: st) h n → Wp l D Y R n0 X E tgt L st h n) (hB : ¬ x < y → Wp l D Y R n0 X E pJ L (.int b :: st) h n → Wp l D Y R n0 X E nx L st h n) (k : Wp l D Y R n0 X E pJ L (.int (if x < y then a else b) :: st) h n) : Wp l D Y R n0 X E pc L (.int y :: .int x :: st) h n :=
  w_icmp_lt hd ht (fun c => hA c (by rw [if_pos c] at k; exact k)) (fun c => hB c (by rw [if_neg c] at k; exact k))
theorem w_tif_ge {x a b : Int32} {pJ : Nat} {off : Int} {tgt : Nat} (hd : dc Y.2.1 pc (.ifCond .ge off) 3 nx) (ht : (pc : Int) + off = (tgt : Int)) (hA : 0 ≤ x → Wp l D Y R n0 X E pJ L (.int a :: st) h n → Wp l D Y R n0 X E tgt L st h n) (hB : ¬ 0 ≤ x → Wp l D Y R n0 X E pJ L (.int b :: st) h n → Wp l D Y R n0 X E nx L st h n) (k : Wp l D Y R n0 X E pJ L (.int (if 0 ≤ x then a else b) :: st) h n) : Wp l D Y R n0 X E pc L (.int x :: st) h n :=
  w_if_ge hd ht (fun c => hA c (by rw [if_pos c] at k; exact k)) (fun c => hB c (by rw [if_neg c] at k; exact k))
theorem w_ticmp_ge {x y a b : Int32} {pJ : Nat} {off : Int} {tgt : Nat} (hd : dc Y.2.1 pc (.if_icmp .ge off) 3 nx) (ht : (pc : Int) + off = (tgt : Int)) (hA : y ≤ x → Wp l D Y R n0 X E pJ L (.int a :: st) h n → Wp l D Y R n0 X E tgt L st h n) (hB : ¬ y ≤ x → Wp l D Y R n0 X E pJ L (.int b :: st) h n → Wp l D Y R n0 X E nx L st h n) (k : Wp l D Y R n0 X E pJ L (.int (if y ≤ x then a else b) :: st) h n) : Wp l D Y R n0 X E pc L (.int y :: .int x :: st) h n :=
  w_icmp_ge hd ht (fun c => hA c (by rw [if_pos c] at k; exact k)) (fun c => hB c (by rw [if_neg c] at k; exact k))
theorem w_tif_gt {x a b : Int32} {pJ : Nat} {off : Int} {tgt : Nat} (hd : dc Y.2.1 pc (.ifCond .gt off) 3 nx) (ht : (pc : Int) + off = (tgt : Int)) (hA : 0 < x → Wp l D Y R n0 X E pJ L (.int a :: st) h n → Wp l D Y R n0 X E tgt L st h n) (hB : ¬ 0 < x → Wp l D Y R n0 X E pJ L (.int b :: st) h n → Wp l D Y R n0 X E nx L st h n) (k : Wp l D Y R n0 X E pJ L (.int (if 0 < x then a else b) :: st) h n) : Wp l D Y R n0 X E pc L (.int x :: st) h n :=
  w_if_gt hd ht (fun c => hA c (by rw [if_pos c] at k; exact k)) (fun c => hB c (by rw [if_neg c] at k; exact k))
theorem w_ticmp_gt {x y a b : Int32} {pJ : Nat} {off : Int} {tgt : Nat} (hd : dc Y.2.1 pc (.if_icmp .gt off) 3 nx) (ht : (pc : Int) + off = (tgt : Int)) (hA : y < x → Wp l D Y R n0 X E pJ L (.int a :: st) h n → Wp l D Y R n0 X E tgt L st h n) (hB : ¬ y < x → Wp l D Y R n0 X E pJ L (.int b :: st) h n → Wp l D Y R n0 X E nx L st h n) (k : Wp l D Y R n0 X E pJ L (.int (if y < x then a else b) :: st) h n) : Wp l D Y R n0 X E pc L (.int y :: .int x :: st) h n :=
  w_icmp_gt hd ht (fun c => hA c (by rw [if_pos c] at k; exact k)) (fun c => hB c (by rw [if_neg c] at k; exact k))
theorem w_tif_le {x a b : Int32} {pJ : Nat} {off : Int} {tgt : Nat} (hd : dc Y.2.1 pc (.ifCond .le off) 3 nx) (ht : (pc : Int) + off = (tgt : Int)) (hA : x ≤ 0 → Wp l D Y R n0 X E pJ L (.int a :: st) h n → Wp l D Y R n0 X E tgt L st h n) (hB : ¬ x ≤ 0 → Wp l D Y R n0 X E pJ L (.int b :: st) h n → Wp l D Y R n0 X E nx L st h n) (k : Wp l D Y R n0 X E pJ L (.int (if x ≤ 0 then a else b) :: st) h n) : Wp l D Y R n0 X E pc L (.int x :: st) h n :=
  w_if_le hd ht (fun c => hA c (by rw [if_pos c] at k; exact k)) (fun c => hB c (by rw [if_neg c] at k; exact k))
theorem w_ticmp_le {x y a b : Int32} {pJ : Nat} {off : Int} {tgt : Nat} (hd : dc Y.2.1 pc (.if_icmp .le off) 3 nx) (ht : (pc : Int) + off = (tgt : Int)) (hA : x ≤ y → Wp l D Y R n0 X E pJ L (.int a :: st) h n → Wp l D Y R n0 X E tgt L st h n) (hB : ¬ x ≤ y → Wp l D Y R n0 X E pJ L (.int b :: st) h n → Wp l D Y R n0 X E nx L st h n) (k : Wp l D Y R n0 X E pJ L (.int (if x ≤ y then a else b) :: st) h n) : Wp l D Y R n0 X E pc L (.int y :: .int x :: st) h n :=
  w_icmp_le hd ht (fun c => hA c (by rw [if_pos c] at k; exact k)) (fun c => hB c (by rw [if_neg c] at k; exact k))
theorem w_ztif_eq {z : Bool} {a b : Int32} {pJ : Nat} {off : Int} {tgt : Nat} (hd : dc Y.2.1 pc (.ifCond .eq off) 3 nx) (ht : (pc : Int) + off = (tgt : Int)) (hA : z = false → Wp l D Y R n0 X E pJ L (.int a :: st) h n → Wp l D Y R n0 X E tgt L st h n) (hB : z = true → Wp l D Y R n0 X E pJ L (.int b :: st) h n → Wp l D Y R n0 X E nx L st h n) (k : Wp l D Y R n0 X E pJ L (.int (bif z then b else a) :: st) h n) : Wp l D Y R n0 X E pc L (.int (b2i z) :: st) h n :=
  w_zif_eq hd ht (fun c => hA c (by rw [c] at k; exact k)) (fun c => hB c (by rw [c] at k; exact k))
theorem w_ztif_ne {z : Bool} {a b : Int32} {pJ : Nat} {off : Int} {tgt : Nat} (hd : dc Y.2.1 pc (.ifCond .ne off) 3 nx) (ht : (pc : Int) + off = (tgt : Int)) (hA : z = true → Wp l D Y R n0 X E pJ L (.int a :: st) h n → Wp l D Y R n0 X E tgt L st h n) (hB : z = false → Wp l D Y R n0 X E pJ L (.int b :: st) h n → Wp l D Y R n0 X E nx L st h n) (k : Wp l D Y R n0 X E pJ L (.int (bif z then a else b) :: st) h n) : Wp l D Y R n0 X E pc L (.int (b2i z) :: st) h n :=
  w_zif_ne hd ht (fun c => hA c (by rw [c] at k; exact k)) (fun c => hB c (by rw [c] at k; exact k))
theorem w_leq {L2 : List (Option Value)} (hh : L = L2) (k : Wp l D Y R n0 X E pc L2 st h n) : Wp l D Y R n0 X E pc L st h n := hh ▸ k
theorem w_zretb {v : Int32} {z : Bool} {mc ms : Nat} (hd : dc Y.2.1 pc .ireturn 1 nx) (hr : Y.2.2.2 = some .boolean) (hv : v = b2i z) (hh : h = h2) (hl : h.length = n0 + mc) (hn : n ≤ ms) : Wp l D Y R n0 X (mE D n0 mc ms (some (.int (b2i z))) h2) pc L [.int v] h n :=
  w_zret hd hr (by rw [hv]; exact b2i_nar z) hv hh hl hn
theorem w_if_eq_t {x : Int32} {off : Int} {tgt : Nat} (hd : dc Y.2.1 pc (.ifCond .eq off) 3 nx) (ht : (pc : Int) + off = (tgt : Int)) (c : x = 0) (k : Wp l D Y R n0 X E tgt L st h n) : Wp l D Y R n0 X E pc L (.int x :: st) h n :=
  w_if_eq hd ht (fun _ => k) (fun q => absurd c q)
theorem w_if_eq_f {x : Int32} {off : Int} (hd : dc Y.2.1 pc (.ifCond .eq off) 3 nx) (ht : ∃ tgt : Nat, (pc : Int) + off = (tgt : Int)) (c : ¬ x = 0) (k : Wp l D Y R n0 X E nx L st h n) : Wp l D Y R n0 X E pc L (.int x :: st) h n := by
  obtain ⟨tgt, ht⟩ := ht
  exact w_if_eq hd ht (fun q => absurd q c) (fun _ => k)
theorem w_icmp_eq_t {x y : Int32} {off : Int} {tgt : Nat} (hd : dc Y.2.1 pc (.if_icmp .eq off) 3 nx) (ht : (pc : Int) + off = (tgt : Int)) (c : x = y) (k : Wp l D Y R n0 X E tgt L st h n) : Wp l D Y R n0 X E pc L (.int y :: .int x :: st) h n :=
  w_icmp_eq hd ht (fun _ => k) (fun q => absurd c q)
theorem w_icmp_eq_f {x y : Int32} {off : Int} (hd : dc Y.2.1 pc (.if_icmp .eq off) 3 nx) (ht : ∃ tgt : Nat, (pc : Int) + off = (tgt : Int)) (c : ¬ x = y) (k : Wp l D Y R n0 X E nx L st h n) : Wp l D Y R n0 X E pc L (.int y :: .int x :: st) h n := by
  obtain ⟨tgt, ht⟩ := ht
  exact w_icmp_eq hd ht (fun q => absurd q c) (fun _ => k)
theorem w_if_ne_t {x : Int32} {off : Int} {tgt : Nat} (hd : dc Y.2.1 pc (.ifCond .ne off) 3 nx) (ht : (pc : Int) + off = (tgt : Int)) (c : ¬ x = 0) (k : Wp l D Y R n0 X E tgt L st h n) : Wp l D Y R n0 X E pc L (.int x :: st) h n :=
  w_if_ne hd ht (fun _ => k) (fun q => absurd q c)
theorem w_if_ne_f {x : Int32} {off : Int} (hd : dc Y.2.1 pc (.ifCond .ne off) 3 nx) (ht : ∃ tgt : Nat, (pc : Int) + off = (tgt : Int)) (c : x = 0) (k : Wp l D Y R n0 X E nx L st h n) : Wp l D Y R n0 X E pc L (.int x :: st) h n := by
  obtain ⟨tgt, ht⟩ := ht
  exact w_if_ne hd ht (fun q => absurd c q) (fun _ => k)
theorem w_icmp_ne_t {x y : Int32} {off : Int} {tgt : Nat} (hd : dc Y.2.1 pc (.if_icmp .ne off) 3 nx) (ht : (pc : Int) + off = (tgt : Int)) (c : ¬ x = y) (k : Wp l D Y R n0 X E tgt L st h n) : Wp l D Y R n0 X E pc L (.int y :: .int x :: st) h n :=
  w_icmp_ne hd ht (fun _ => k) (fun q => absurd q c)
theorem w_icmp_ne_f {x y : Int32} {off : Int} (hd : dc Y.2.1 pc (.if_icmp .ne off) 3 nx) (ht : ∃ tgt : Nat, (pc : Int) + off = (tgt : Int)) (c : x = y) (k : Wp l D Y R n0 X E nx L st h n) : Wp l D Y R n0 X E pc L (.int y :: .int x :: st) h n := by
  obtain ⟨tgt, ht⟩ := ht
  exact w_icmp_ne hd ht (fun q => absurd c q) (fun _ => k)
theorem w_if_lt_t {x : Int32} {off : Int} {tgt : Nat} (hd : dc Y.2.1 pc (.ifCond .lt off) 3 nx) (ht : (pc : Int) + off = (tgt : Int)) (c : x < 0) (k : Wp l D Y R n0 X E tgt L st h n) : Wp l D Y R n0 X E pc L (.int x :: st) h n :=
  w_if_lt hd ht (fun _ => k) (fun q => absurd c q)
theorem w_if_lt_f {x : Int32} {off : Int} (hd : dc Y.2.1 pc (.ifCond .lt off) 3 nx) (ht : ∃ tgt : Nat, (pc : Int) + off = (tgt : Int)) (c : ¬ x < 0) (k : Wp l D Y R n0 X E nx L st h n) : Wp l D Y R n0 X E pc L (.int x :: st) h n := by
  obtain ⟨tgt, ht⟩ := ht
  exact w_if_lt hd ht (fun q => absurd q c) (fun _ => k)
theorem w_icmp_lt_t {x y : Int32} {off : Int} {tgt : Nat} (hd : dc Y.2.1 pc (.if_icmp .lt off) 3 nx) (ht : (pc : Int) + off = (tgt : Int)) (c : x < y) (k : Wp l D Y R n0 X E tgt L st h n) : Wp l D Y R n0 X E pc L (.int y :: .int x :: st) h n :=
  w_icmp_lt hd ht (fun _ => k) (fun q => absurd c q)
theorem w_icmp_lt_f {x y : Int32} {off : Int} (hd : dc Y.2.1 pc (.if_icmp .lt off) 3 nx) (ht : ∃ tgt : Nat, (pc : Int) + off = (tgt : Int)) (c : ¬ x < y) (k : Wp l D Y R n0 X E nx L st h n) : Wp l D Y R n0 X E pc L (.int y :: .int x :: st) h n := by
  obtain ⟨tgt, ht⟩ := ht
  exact w_icmp_lt hd ht (fun q => absurd q c) (fun _ => k)
theorem w_if_ge_t {x : Int32} {off : Int} {tgt : Nat} (hd : dc Y.2.1 pc (.ifCond .ge off) 3 nx) (ht : (pc : Int) + off = (tgt : Int)) (c : 0 ≤ x) (k : Wp l D Y R n0 X E tgt L st h n) : Wp l D Y R n0 X E pc L (.int x :: st) h n :=
  w_if_ge hd ht (fun _ => k) (fun q => absurd c q)
theorem w_if_ge_f {x : Int32} {off : Int} (hd : dc Y.2.1 pc (.ifCond .ge off) 3 nx) (ht : ∃ tgt : Nat, (pc : Int) + off = (tgt : Int)) (c : ¬ 0 ≤ x) (k : Wp l D Y R n0 X E nx L st h n) : Wp l D Y R n0 X E pc L (.int x :: st) h n := by
  obtain ⟨tgt, ht⟩ := ht
  exact w_if_ge hd ht (fun q => absurd q c) (fun _ => k)
theorem w_icmp_ge_t {x y : Int32} {off : Int} {tgt : Nat} (hd : dc Y.2.1 pc (.if_icmp .ge off) 3 nx) (ht : (pc : Int) + off = (tgt : Int)) (c : y ≤ x) (k : Wp l D Y R n0 X E tgt L st h n) : Wp l D Y R n0 X E pc L (.int y :: .int x :: st) h n :=
  w_icmp_ge hd ht (fun _ => k) (fun q => absurd c q)
theorem w_icmp_ge_f {x y : Int32} {off : Int} (hd : dc Y.2.1 pc (.if_icmp .ge off) 3 nx) (ht : ∃ tgt : Nat, (pc : Int) + off = (tgt : Int)) (c : ¬ y ≤ x) (k : Wp l D Y R n0 X E nx L st h n) : Wp l D Y R n0 X E pc L (.int y :: .int x :: st) h n := by
  obtain ⟨tgt, ht⟩ := ht
  exact w_icmp_ge hd ht (fun q => absurd q c) (fun _ => k)
theorem w_if_gt_t {x : Int32} {off : Int} {tgt : Nat} (hd : dc Y.2.1 pc (.ifCond .gt off) 3 nx) (ht : (pc : Int) + off = (tgt : Int)) (c : 0 < x) (k : Wp l D Y R n0 X E tgt L st h n) : Wp l D Y R n0 X E pc L (.int x :: st) h n :=
  w_if_gt hd ht (fun _ => k) (fun q => absurd c q)
theorem w_if_gt_f {x : Int32} {off : Int} (hd : dc Y.2.1 pc (.ifCond .gt off) 3 nx) (ht : ∃ tgt : Nat, (pc : Int) + off = (tgt : Int)) (c : ¬ 0 < x) (k : Wp l D Y R n0 X E nx L st h n) : Wp l D Y R n0 X E pc L (.int x :: st) h n := by
  obtain ⟨tgt, ht⟩ := ht
  exact w_if_gt hd ht (fun q => absurd q c) (fun _ => k)
theorem w_icmp_gt_t {x y : Int32} {off : Int} {tgt : Nat} (hd : dc Y.2.1 pc (.if_icmp .gt off) 3 nx) (ht : (pc : Int) + off = (tgt : Int)) (c : y < x) (k : Wp l D Y R n0 X E tgt L st h n) : Wp l D Y R n0 X E pc L (.int y :: .int x :: st) h n :=
  w_icmp_gt hd ht (fun _ => k) (fun q => absurd c q)
theorem w_icmp_gt_f {x y : Int32} {off : Int} (hd : dc Y.2.1 pc (.if_icmp .gt off) 3 nx) (ht : ∃ tgt : Nat, (pc : Int) + off = (tgt : Int)) (c : ¬ y < x) (k : Wp l D Y R n0 X E nx L st h n) : Wp l D Y R n0 X E pc L (.int y :: .int x :: st) h n := by
  obtain ⟨tgt, ht⟩ := ht
  exact w_icmp_gt hd ht (fun q => absurd q c) (fun _ => k)
theorem w_if_le_t {x : Int32} {off : Int} {tgt : Nat} (hd : dc Y.2.1 pc (.ifCond .le off) 3 nx) (ht : (pc : Int) + off = (tgt : Int)) (c : x ≤ 0) (k : Wp l D Y R n0 X E tgt L st h n) : Wp l D Y R n0 X E pc L (.int x :: st) h n :=
  w_if_le hd ht (fun _ => k) (fun q => absurd c q)
theorem w_if_le_f {x : Int32} {off : Int} (hd : dc Y.2.1 pc (.ifCond .le off) 3 nx) (ht : ∃ tgt : Nat, (pc : Int) + off = (tgt : Int)) (c : ¬ x ≤ 0) (k : Wp l D Y R n0 X E nx L st h n) : Wp l D Y R n0 X E pc L (.int x :: st) h n := by
  obtain ⟨tgt, ht⟩ := ht
  exact w_if_le hd ht (fun q => absurd q c) (fun _ => k)
theorem w_icmp_le_t {x y : Int32} {off : Int} {tgt : Nat} (hd : dc Y.2.1 pc (.if_icmp .le off) 3 nx) (ht : (pc : Int) + off = (tgt : Int)) (c : x ≤ y) (k : Wp l D Y R n0 X E tgt L st h n) : Wp l D Y R n0 X E pc L (.int y :: .int x :: st) h n :=
  w_icmp_le hd ht (fun _ => k) (fun q => absurd c q)
theorem w_icmp_le_f {x y : Int32} {off : Int} (hd : dc Y.2.1 pc (.if_icmp .le off) 3 nx) (ht : ∃ tgt : Nat, (pc : Int) + off = (tgt : Int)) (c : ¬ x ≤ y) (k : Wp l D Y R n0 X E nx L st h n) : Wp l D Y R n0 X E pc L (.int y :: .int x :: st) h n := by
  obtain ⟨tgt, ht⟩ := ht
  exact w_icmp_le hd ht (fun q => absurd q c) (fun _ => k)
theorem w_zif_eq_t {b : Bool} {off : Int} {tgt : Nat} (hd : dc Y.2.1 pc (.ifCond .eq off) 3 nx) (ht : (pc : Int) + off = (tgt : Int)) (c : b = false) (k : Wp l D Y R n0 X E tgt L st h n) : Wp l D Y R n0 X E pc L (.int (b2i b) :: st) h n :=
  w_zif_eq hd ht (fun _ => k) (fun q => by rw [c] at q; cases q)
theorem w_zif_eq_f {b : Bool} {off : Int} (hd : dc Y.2.1 pc (.ifCond .eq off) 3 nx) (ht : ∃ tgt : Nat, (pc : Int) + off = (tgt : Int)) (c : b = true) (k : Wp l D Y R n0 X E nx L st h n) : Wp l D Y R n0 X E pc L (.int (b2i b) :: st) h n := by
  obtain ⟨tgt, ht⟩ := ht
  exact w_zif_eq hd ht (fun q => by rw [c] at q; cases q) (fun _ => k)
theorem w_zif_ne_t {b : Bool} {off : Int} {tgt : Nat} (hd : dc Y.2.1 pc (.ifCond .ne off) 3 nx) (ht : (pc : Int) + off = (tgt : Int)) (c : b = true) (k : Wp l D Y R n0 X E tgt L st h n) : Wp l D Y R n0 X E pc L (.int (b2i b) :: st) h n :=
  w_zif_ne hd ht (fun _ => k) (fun q => by rw [c] at q; cases q)
theorem w_zif_ne_f {b : Bool} {off : Int} (hd : dc Y.2.1 pc (.ifCond .ne off) 3 nx) (ht : ∃ tgt : Nat, (pc : Int) + off = (tgt : Int)) (c : b = false) (k : Wp l D Y R n0 X E nx L st h n) : Wp l D Y R n0 X E pc L (.int (b2i b) :: st) h n := by
  obtain ⟨tgt, ht⟩ := ht
  exact w_zif_ne hd ht (fun q => by rw [c] at q; cases q) (fun _ => k)
theorem w_callVr {Yc : PMth} {nA d a ci idx : Nat} {As : List Value} {v : Value} {fs : List Value} {T1 : u_T} {N1 : Nat} (hd : dc Y.2.1 pc (.invokevirtual idx) 3 nx) (hk : KVp Y.1.cls idx Yc nA) (hM : PM l D Yc d (.ref a :: As) h 0 0 (some v) h2) (hst : st0 = As.reverse ++ .ref a :: st) (hnA : As.length = nA) (hcell : h[a]? = some (.inr (ci, fs))) (hci : vwCl[ci]? = some (Yc.1.cls, T1, N1)) (hfr : d + 1 ≤ R.frames) (hlo : 8 + (Yc.2.2.1 + 11) + 40 * d ≤ R.locals) (hW : (st.map fun v => v.category).sum ≤ 8) (hrc : h.length - n0 + 0 ≤ R.cells ∧ n + 0 ≤ R.slots) (kk : Wp l D Y R n0 X E nx L (v :: st) h2 n) : Wp l D Y R n0 X E pc L st0 h n :=
  w_callV hd hk hM hst hnA hcell hci hfr hlo hW hrc kk
theorem w_callVv {Yc : PMth} {nA d a ci idx : Nat} {As : List Value} {fs : List Value} {T1 : u_T} {N1 : Nat} (hd : dc Y.2.1 pc (.invokevirtual idx) 3 nx) (hk : KVp Y.1.cls idx Yc nA) (hM : PM l D Yc d (.ref a :: As) h 0 0 none h2) (hst : st0 = As.reverse ++ .ref a :: st) (hnA : As.length = nA) (hcell : h[a]? = some (.inr (ci, fs))) (hci : vwCl[ci]? = some (Yc.1.cls, T1, N1)) (hfr : d + 1 ≤ R.frames) (hlo : 8 + (Yc.2.2.1 + 11) + 40 * d ≤ R.locals) (hW : (st.map fun v => v.category).sum ≤ 8) (hrc : h.length - n0 + 0 ≤ R.cells ∧ n + 0 ≤ R.slots) (kk : Wp l D Y R n0 X E nx L st h2 n) : Wp l D Y R n0 X E pc L st0 h n :=
  w_callV hd hk hM hst hnA hcell hci hfr hlo hW hrc kk
theorem w_callSr {Yc : PMth} {nA d idx : Nat} {As : List Value} {v : Value} (hd : dc Y.2.1 pc (.invokestatic idx) 3 nx) (hk : KSp Y.1.cls idx Yc nA) (hM : PM l D Yc d As h 0 0 (some v) h2) (hst : st0 = As.reverse ++ st) (hnA : As.length = nA) (hfr : d + 1 ≤ R.frames) (hlo : 8 + (Yc.2.2.1 + 11) + 40 * d ≤ R.locals) (hW : (st.map fun v => v.category).sum ≤ 8) (hrc : h.length - n0 + 0 ≤ R.cells ∧ n + 0 ≤ R.slots) (kk : Wp l D Y R n0 X E nx L (v :: st) h2 n) : Wp l D Y R n0 X E pc L st0 h n :=
  w_callS hd hk hM hst hnA hfr hlo hW hrc kk
theorem w_loc_0 {x y : Int32} (hh : x = y) (k : Wp l D Y R n0 X E pc (some (.int y) :: L) st h n) : Wp l D Y R n0 X E pc (some (.int x) :: L) st h n := hh ▸ k
theorem w_loc_1 {a0 : Option Value} {x y : Int32} (hh : x = y) (k : Wp l D Y R n0 X E pc (a0 :: some (.int y) :: L) st h n) : Wp l D Y R n0 X E pc (a0 :: some (.int x) :: L) st h n := hh ▸ k
theorem w_loc_2 {a0 a1 : Option Value} {x y : Int32} (hh : x = y) (k : Wp l D Y R n0 X E pc (a0 :: a1 :: some (.int y) :: L) st h n) : Wp l D Y R n0 X E pc (a0 :: a1 :: some (.int x) :: L) st h n := hh ▸ k
theorem w_loc_3 {a0 a1 a2 : Option Value} {x y : Int32} (hh : x = y) (k : Wp l D Y R n0 X E pc (a0 :: a1 :: a2 :: some (.int y) :: L) st h n) : Wp l D Y R n0 X E pc (a0 :: a1 :: a2 :: some (.int x) :: L) st h n := hh ▸ k
theorem w_loc_4 {a0 a1 a2 a3 : Option Value} {x y : Int32} (hh : x = y) (k : Wp l D Y R n0 X E pc (a0 :: a1 :: a2 :: a3 :: some (.int y) :: L) st h n) : Wp l D Y R n0 X E pc (a0 :: a1 :: a2 :: a3 :: some (.int x) :: L) st h n := hh ▸ k
theorem w_loc_5 {a0 a1 a2 a3 a4 : Option Value} {x y : Int32} (hh : x = y) (k : Wp l D Y R n0 X E pc (a0 :: a1 :: a2 :: a3 :: a4 :: some (.int y) :: L) st h n) : Wp l D Y R n0 X E pc (a0 :: a1 :: a2 :: a3 :: a4 :: some (.int x) :: L) st h n := hh ▸ k
theorem w_loc_6 {a0 a1 a2 a3 a4 a5 : Option Value} {x y : Int32} (hh : x = y) (k : Wp l D Y R n0 X E pc (a0 :: a1 :: a2 :: a3 :: a4 :: a5 :: some (.int y) :: L) st h n) : Wp l D Y R n0 X E pc (a0 :: a1 :: a2 :: a3 :: a4 :: a5 :: some (.int x) :: L) st h n := hh ▸ k
theorem w_loc_7 {a0 a1 a2 a3 a4 a5 a6 : Option Value} {x y : Int32} (hh : x = y) (k : Wp l D Y R n0 X E pc (a0 :: a1 :: a2 :: a3 :: a4 :: a5 :: a6 :: some (.int y) :: L) st h n) : Wp l D Y R n0 X E pc (a0 :: a1 :: a2 :: a3 :: a4 :: a5 :: a6 :: some (.int x) :: L) st h n := hh ▸ k
theorem w_loc_8 {a0 a1 a2 a3 a4 a5 a6 a7 : Option Value} {x y : Int32} (hh : x = y) (k : Wp l D Y R n0 X E pc (a0 :: a1 :: a2 :: a3 :: a4 :: a5 :: a6 :: a7 :: some (.int y) :: L) st h n) : Wp l D Y R n0 X E pc (a0 :: a1 :: a2 :: a3 :: a4 :: a5 :: a6 :: a7 :: some (.int x) :: L) st h n := hh ▸ k
theorem w_loc_9 {a0 a1 a2 a3 a4 a5 a6 a7 a8 : Option Value} {x y : Int32} (hh : x = y) (k : Wp l D Y R n0 X E pc (a0 :: a1 :: a2 :: a3 :: a4 :: a5 :: a6 :: a7 :: a8 :: some (.int y) :: L) st h n) : Wp l D Y R n0 X E pc (a0 :: a1 :: a2 :: a3 :: a4 :: a5 :: a6 :: a7 :: a8 :: some (.int x) :: L) st h n := hh ▸ k
theorem w_loc_10 {a0 a1 a2 a3 a4 a5 a6 a7 a8 a9 : Option Value} {x y : Int32} (hh : x = y) (k : Wp l D Y R n0 X E pc (a0 :: a1 :: a2 :: a3 :: a4 :: a5 :: a6 :: a7 :: a8 :: a9 :: some (.int y) :: L) st h n) : Wp l D Y R n0 X E pc (a0 :: a1 :: a2 :: a3 :: a4 :: a5 :: a6 :: a7 :: a8 :: a9 :: some (.int x) :: L) st h n := hh ▸ k
theorem w_loc_11 {a0 a1 a2 a3 a4 a5 a6 a7 a8 a9 a10 : Option Value} {x y : Int32} (hh : x = y) (k : Wp l D Y R n0 X E pc (a0 :: a1 :: a2 :: a3 :: a4 :: a5 :: a6 :: a7 :: a8 :: a9 :: a10 :: some (.int y) :: L) st h n) : Wp l D Y R n0 X E pc (a0 :: a1 :: a2 :: a3 :: a4 :: a5 :: a6 :: a7 :: a8 :: a9 :: a10 :: some (.int x) :: L) st h n := hh ▸ k
theorem w_loc_12 {a0 a1 a2 a3 a4 a5 a6 a7 a8 a9 a10 a11 : Option Value} {x y : Int32} (hh : x = y) (k : Wp l D Y R n0 X E pc (a0 :: a1 :: a2 :: a3 :: a4 :: a5 :: a6 :: a7 :: a8 :: a9 :: a10 :: a11 :: some (.int y) :: L) st h n) : Wp l D Y R n0 X E pc (a0 :: a1 :: a2 :: a3 :: a4 :: a5 :: a6 :: a7 :: a8 :: a9 :: a10 :: a11 :: some (.int x) :: L) st h n := hh ▸ k
theorem w_loc_13 {a0 a1 a2 a3 a4 a5 a6 a7 a8 a9 a10 a11 a12 : Option Value} {x y : Int32} (hh : x = y) (k : Wp l D Y R n0 X E pc (a0 :: a1 :: a2 :: a3 :: a4 :: a5 :: a6 :: a7 :: a8 :: a9 :: a10 :: a11 :: a12 :: some (.int y) :: L) st h n) : Wp l D Y R n0 X E pc (a0 :: a1 :: a2 :: a3 :: a4 :: a5 :: a6 :: a7 :: a8 :: a9 :: a10 :: a11 :: a12 :: some (.int x) :: L) st h n := hh ▸ k
end PMO
theorem ite_le {a b : Int32} {α : Type} {x y : α} : (if b ≤ a then x else y) = (if a < b then y else x) := by
  by_cases h : a < b
  · rw [if_pos h, if_neg (Int32.not_le.mpr h)]
  · rw [if_neg h, if_pos (Int32.not_lt.mp h)]
theorem e_and (p q : Bool) : (bif p then (bif q then 1 else 0) else 0) = b2i (p && q) := by cases p <;> cases q <;> rfl
theorem e_z (p : Bool) : (bif p then 1 else 0) = b2i p := by cases p <;> rfl
theorem e_zn (p : Bool) : (bif p then 0 else 1) = b2i (!p) := by cases p <;> rfl
