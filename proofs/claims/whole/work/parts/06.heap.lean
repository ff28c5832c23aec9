theorem pW_get (B : Nat) (ca : Nat → ClassId) (h : PH) (i : Nat) : (pW B ca h)[i]? = (h[i]?).map (fun c => (B + i, pE B (ca i) c)) := by
  simp [pW, List.getElem?_mapIdx]
theorem pW_at {B : Nat} {ca : Nat → ClassId} {h : PH} {i : Nat} {c : PC} (hc : h[i]? = some c) : (pW B ca h)[i]? = some (B + i, pE B (ca i) c) := by rw [pW_get, hc]; rfl
theorem pW_key {B : Nat} {ca : Nat → ClassId} {h : PH} {i : Nat} {q : Nat × va_E} (hq : (pW B ca h)[i]? = some q) : q.1 = B + i ∧ i < h.length := by
  rw [pW_get] at hq
  cases hh : h[i]? with
  | none => rw [hh] at hq; cases hq
  | some c => rw [hh] at hq; cases hq; exact ⟨rfl, (List.getElem?_eq_some_iff.mp hh).1⟩
theorem pW_D (B : Nat) (ca : Nat → ClassId) (h : PH) : va_D (fun q => B ≤ q) (pW B ca h) :=
  ⟨fun i j p q hi hj hpq => by have := (pW_key hi).1; have := (pW_key hj).1; omega, fun k q hk => by have := (pW_key hk).1; show B ≤ q.1; omega⟩
theorem pW_set (B : Nat) (ca : Nat → ClassId) (h : PH) (i : Nat) (c : PC) : pW B ca (h.set i c) = (pW B ca h).set i (B + i, pE B (ca i) c) := by
  apply List.ext_getElem?
  intro j
  rw [pW_get]
  by_cases hj : j = i
  · subst hj
    by_cases hl : j < h.length
    · rw [List.getElem?_set_self hl, List.getElem?_set_self (by simp [pW]; exact hl)]; rfl
    · rw [List.getElem?_eq_none (by rw [List.length_set]; omega), List.getElem?_eq_none (by rw [List.length_set]; simp [pW]; omega)]; rfl
  · rw [List.getElem?_set_ne (Ne.symm hj), List.getElem?_set_ne (Ne.symm hj), pW_get]
theorem Sim.moved {D : va_G} {B : Nat} {h : PH} {u U : State} {H : Heap} (hvm : u.vm.Alike U.vm) (hs : Sim D B h u H) : Sim D B h U H := by
  obtain ⟨h1, ca, h2, h3⟩ := hs
  exact ⟨h1, ca, h2, fun i ty a hi => ⟨arrOfT_moved hvm (h3 i ty a hi).1, (h3 i ty a hi).2.moved hvm⟩⟩
theorem pNs_warm {w : Cond} {s U : State} (hw : isNest w = true) (hW : s.WarmedH U.vm) (hZ : va_Nw w s) : va_Nw w U := by
  cases w <;> first | exact va_Nw.warmF hW hZ | exact va_Nw.warmM hW hZ | (simp [isNest] at hw)
theorem pNs_same {w : Cond} {u U : State} (hw : isNest w = true) (hv : u.vm = U.vm) (hZ : va_Nw w u) : va_Nw w U := by
  refine va_Nw.same ?_ hv hZ
  cases w <;> first | rfl | (simp [isNest] at hw)
theorem pG.warm {D : va_G} {s U : State} (hW : s.WarmedH U.vm) (hg : pG D s) : pG D U :=
  ⟨hg.1.moved hW.alike, fun w hw => pNs_warm (List.mem_filter.mp hw).2 hW (hg.2.1 w hw), hg.2.2.moved hW.alike⟩
theorem pG.same {D : va_G} {u U : State} (hv : u.vm = U.vm) (ha : u.vm.Alike U.vm) (hg : pG D u) : pG D U :=
  ⟨hg.1.moved ha, fun w hw => pNs_same (List.mem_filter.mp hw).2 hv (hg.2.1 w hw), hg.2.2.moved ha⟩
/-- the heap isn't larger than the cells that the walk has counted -/
theorem W_size {p : Program} {l : Launch} {e : Env} {R : Room} {s : State} {m : MethodId} {args : Array Value} {below : List Frame} {meth : Method} {c : Code} {H : Heap} {locs : List Loc} {cells slots : Nat} {Q : State → Prop} {g : JFrame} (kk : H.size ≤ s.heap.size + cells → W p l e R s m args below meth c H locs cells slots Q g) : W p l e R s m args below meth c H locs cells slots Q g := by
  intro T hT X
  have hz : T.heap.size ≤ s.heap.size + cells := X.same.2.2.1
  exact kk (by rw [← hT]; exact hz) T hT X
theorem sim_set {D : va_G} {B i : Nat} {h : PH} {s : State} {H1 : Heap} {ca : Nat → ClassId} {c0 c : PC} (hA : pArr s ca h) (hc : h[i]? = some c0) (hP : va_P D vwCl ((pW B ca h).set i (B + i, pE B (ca i) c)) H1) (hz : H1.size ≤ B + h.length) (hty : ∀ ty a, c = .inl (ty, a) → ∃ a0, c0 = .inl (ty, a0)) : Sim D B (h.set i c) s H1 := by
  rw [← pW_set] at hP
  have hl : i < h.length := (List.getElem?_eq_some_iff.mp hc).1
  refine ⟨?_, ca, hP, ?_⟩
  · have hlast : (h.set i c)[h.length - 1]? = some ((h.set i c)[h.length - 1]'(by rw [List.length_set]; omega)) := List.getElem?_eq_getElem _
    have h1 := (hP (h.length - 1) _ (pW_at hlast)).lt
    rw [List.length_set]
    have h2 : B + (h.length - 1) < H1.size := h1
    omega
  · intro j ty a hj
    by_cases hji : j = i
    · subst hji
      rw [List.getElem?_set_self hl] at hj
      obtain ⟨a0, ha0⟩ := hty ty a (Option.some.inj hj)
      exact hA j ty a0 (by rw [hc, ha0])
    · rw [List.getElem?_set_ne (Ne.symm hji)] at hj
      exact hA j ty a hj
def pK1 {D : va_G} {s : State} {cA : ClassId} {ty : FieldType} (hK : va_K D vwCl [] s) (h1 : ArrOfT s cA ty) (h2 : va_RA s cA ty) : va_K D vwCl [(cA, ty)] s := ⟨hK.1, fun k q hk => by
  cases k with
  | zero => cases hk; exact ⟨h1, h2⟩
  | succ k => cases hk⟩
/-- a cell is added at the end -/
theorem sim_add {D : va_G} {B q : Nat} {h : PH} {s : State} {H1 : Heap} {ca : Nat → ClassId} {c : PC} {cA : ClassId} (hA : pArr s ca h) (hP : va_P D vwCl (pW B ca h ++ [(q, pE B cA c)]) H1) (hD : va_D (fun q => B ≤ q) (pW B ca h ++ [(q, pE B cA c)])) (hz : H1.size ≤ B + h.length + 1) (hty : ∀ ty a, c = .inl (ty, a) → ArrOfT s cA ty ∧ va_RA s cA ty) : q = B + h.length ∧ Sim D B (h ++ [c]) s H1 := by
  have hlen : (pW B ca h).length = h.length := by simp [pW]
  have hq0 : (pW B ca h ++ [(q, pE B cA c)])[h.length]? = some (q, pE B cA c) := by rw [List.getElem?_append_right (by omega), hlen, Nat.sub_self]; rfl
  have hlt : q < H1.size := (hP h.length _ hq0).lt
  have hge : B ≤ q := hD.2 _ _ hq0
  have hq : q = B + h.length := by
    rcases Nat.lt_or_ge q (B + h.length) with hlt2 | hge2
    · exfalso
      have hi : q - B < h.length := by omega
      have h1 : (pW B ca h ++ [(q, pE B cA c)])[q - B]? = some (B + (q - B), pE B (ca (q - B)) (h[q - B])) := by
        rw [List.getElem?_append_left (by omega)]
        exact pW_at (List.getElem?_eq_getElem hi)
      have h2 := hD.1 _ _ _ _ h1 hq0 (by show B + (q - B) = q; omega)
      omega
    · omega
  subst hq
  refine ⟨rfl, by rw [List.length_append, List.length_singleton]; omega, fun i => if i = h.length then cA else ca i, ?_, ?_⟩
  · have he : pW B (fun i => if i = h.length then cA else ca i) (h ++ [c]) = pW B ca h ++ [(B + h.length, pE B cA c)] := by
      apply List.ext_getElem?
      intro j
      rw [pW_get]
      rcases Nat.lt_trichotomy j h.length with hj | hj | hj
      · rw [List.getElem?_append_left hj, List.getElem?_append_left (by omega), pW_get, if_neg (by omega)]
      · subst hj
        rw [hq0, List.getElem?_append_right (Nat.le_refl _), Nat.sub_self, if_pos rfl]; rfl
      · rw [List.getElem?_eq_none (by rw [List.length_append, List.length_singleton]; omega), List.getElem?_eq_none (by rw [List.length_append, List.length_singleton]; omega)]; rfl
    rw [he]; exact hP
  · intro i ty a hi
    by_cases hil : i = h.length
    · subst hil
      rw [List.getElem?_append_right (Nat.le_refl _), Nat.sub_self] at hi
      show ArrOfT s (if h.length = h.length then cA else ca h.length) ty ∧ va_RA s (if h.length = h.length then cA else ca h.length) ty
      rw [if_pos rfl]
      exact hty ty a (Option.some.inj hi)
    · have hlt3 : i < h.length := by
        have := (List.getElem?_eq_some_iff.mp hi).1
        rw [List.length_append, List.length_singleton] at this
        omega
      rw [List.getElem?_append_left hlt3] at hi
      show ArrOfT s (if i = h.length then cA else ca i) ty ∧ va_RA s (if i = h.length then cA else ca i) ty
      rw [if_neg hil]
      exact hA i ty a hi
section PHP
variable {l : Launch} {D : va_G} {Y : PMth} {R : Room} {n0 : Nat} {X : State → Array Value → Nat → Prop} {E : List Frame → Array Value → State → Nat → State → Prop} {pc nx : Nat} {L : List (Option Value)} {st : List Value} {h : PH} {n : Nat}
theorem w_get {a ci k idx : Nat} {fin : Bool} {ty : FieldType} {fs : List Value} {v : Value} (hd : dc Y.2.1 pc (.getfield idx) 3 nx) (hf : FLp Y.1.cls idx ci k fin ty) (hc : h[a]? = some (.inr (ci, fs))) (hv : fs[k]? = some v) (kk : Wp l D Y R n0 X E nx L (v :: st) h n) : Wp l D Y R n0 X E pc L (.ref a :: st) h n := by
  intro p e s m args below meth c B H locs ls C hX h1 h2 h3 h4 h5
  obtain ⟨hd, rfl⟩ := hd
  obtain ⟨C0, T, N, ty0, e1, e2, e3, e4, e5, -⟩ := hf
  obtain ⟨hx, hb, hr, hml, hown, hts, hlk, hnm, hG⟩ := id C
  have h3' := id h3
  obtain ⟨hz, ca, hP, hA⟩ := h3'
  have he : (pW B ca h)[a]? = some (B + a, .inr (ci, fs.map (pv B))) := pW_at hc
  have hvv : (fs.map (pv B))[k]? = some (pv B v) := by rw [List.getElem?_map, hv]; rfl
  have same : ∀ x, s.fieldFound? (T k).1 (T k).2.1 (T k).2.2.1 = some x → s.fieldFound? C0 (T k).2.1 (T k).2.2.1 = some x := fun x hx => by rw [e3] at hx; exact hx
  rcases e5 with e5 | ⟨host, e5⟩
  · exact va_get hx hb hts e4 hown hG.1 hP a he e1 k e2 (hts _ e5) same hvv hd (kk p e s m args below meth c B H locs ls C hX h1 h2 h3 h4 h5)
  · exact va_getN hx hb hts e4 hown hG.1 hP a he e1 k e2 (va_Nw.use rfl (hG.2.1 _ e5)) same hvv hd (kk p e s m args below meth c B H locs ls C hX h1 h2 h3 h4 h5)
theorem w_put {a ci k idx : Nat} {ty : FieldType} {fs : List Value} {v : Value} (hd : dc Y.2.1 pc (.putfield idx) 3 nx) (hf : FLp Y.1.cls idx ci k false ty) (hc : h[a]? = some (.inr (ci, fs))) (hk : k < fs.length) (hn : ∀ B, narrow ty (pv B v) = pv B v) (hfit : ∀ B, fits ty (pv B v) = true) (kk : Wp l D Y R n0 X E nx L st (h.set a (.inr (ci, fs.set k v))) n) : Wp l D Y R n0 X E pc L (v :: .ref a :: st) h n := by
  intro p e s m args below meth c B H locs ls C hX h1 h2 h3 h4 h5
  obtain ⟨hd, rfl⟩ := hd
  obtain ⟨C0, T, N, ty0, e1, e2, e3, e4, e5, e6, e7, e8, e9⟩ := hf
  obtain ⟨hx, hb, hr, hml, hown, hts, hlk, hnm, hG⟩ := id C
  obtain ⟨hz, ca, hP, hA⟩ := h3
  have he : (pW B ca h)[a]? = some (B + a, .inr (ci, fs.map (pv B))) := pW_at hc
  have same : ∀ x, s.fieldFound? (T k).1 (T k).2.1 (T k).2.2.1 = some x → s.fieldFound? C0 (T k).2.1 (T k).2.2.1 = some x := fun x hx => by rw [e3] at hx; exact hx
  have go : ∀ (H1 : Heap) (locs1 : List Loc), va_P D vwCl ((pW B ca h).set a (B + a, .inr (ci, (fs.map (pv B)).set k (pv B v)))) H1 → va_D (fun q => B ≤ q) ((pW B ca h).set a (B + a, .inr (ci, (fs.map (pv B)).set k (pv B v)))) → va_S (fun q => B ≤ q) s.heap H1 locs1 → W p l e R s m args below meth c H1 locs1 (h.length - n0) n (E below args s B) (F0 m (pc + 3) ls (st.map (pv B))) := by
    intro H1 locs1 g1 g2 g3
    rw [← List.map_set] at g1
    refine W_size fun hle => ?_
    have hs := sim_set (c := .inr (ci, fs.set k v)) hA hc g1 (by omega) (fun ty a q => by cases q)
    have := kk p e s m args below meth c B H1 locs1 ls C hX h1 (by rw [List.length_set]; exact h2) hs g3 h5
    rw [List.length_set] at this
    exact this
  rcases e5 with e5 | ⟨host, e5⟩
  · exact va_put hx hb hts e4 ty0 e6 e7 hown hG.1 hP (pW_D B ca h) h4 a he e1 k e2 (hts _ e5) same e8 e9 (hn B) (hfit B) (by rw [List.length_map]; exact hk) hd go
  · exact va_putN hx hb hts e4 ty0 e6 e7 hown hG.1 hP (pW_D B ca h) h4 a he e1 k e2 (va_Nw.use rfl (hG.2.1 _ e5)) same e8 e9 (hn B) (hfit B) (by rw [List.length_map]; exact hk) hd go
theorem w_putF {a ci k idx : Nat} {ty : FieldType} {fs : List Value} {v : Value} (hd : dc Y.2.1 pc (.putfield idx) 3 nx) (hf : FLp Y.1.cls idx ci k true ty) (hY : Y.1.name = "<init>") {T1 : u_T} {N1 : Nat} (hC : vwCl[ci]? = some (Y.1.cls, T1, N1)) (hl : Cond.fieldLink Y.1.cls idx Y.1.cls (T1 k).2.1 (T1 k).2.2.1 ∈ pTb) (hc : h[a]? = some (.inr (ci, fs))) (hk : k < fs.length) (hn : ∀ B, narrow ty (pv B v) = pv B v) (hfit : ∀ B, fits ty (pv B v) = true) (kk : Wp l D Y R n0 X E nx L st (h.set a (.inr (ci, fs.set k v))) n) : Wp l D Y R n0 X E pc L (v :: .ref a :: st) h n := by
  intro p e s m args below meth c B H locs ls C hX h1 h2 h3 h4 h5
  obtain ⟨hd, rfl⟩ := hd
  obtain ⟨C0, T, N, ty0, e1, e2, e3, e4, e5, e6, e7, e8, e9⟩ := hf
  obtain ⟨hx, hb, hr, hml, hown, hts, hlk, hnm, hG⟩ := id C
  obtain ⟨hz, ca, hP, hA⟩ := h3
  have he : (pW B ca h)[a]? = some (B + a, .inr (ci, fs.map (pv B))) := pW_at hc
  rw [hC] at e1
  cases e1
  have same : ∀ x, s.fieldFound? (T1 k).1 (T1 k).2.1 (T1 k).2.2.1 = some x → s.fieldFound? Y.1.cls (T1 k).2.1 (T1 k).2.2.1 = some x := fun x hx => by rw [e3] at hx; exact hx
  have go : ∀ (H1 : Heap) (locs1 : List Loc), va_P D vwCl ((pW B ca h).set a (B + a, .inr (ci, (fs.map (pv B)).set k (pv B v)))) H1 → va_D (fun q => B ≤ q) ((pW B ca h).set a (B + a, .inr (ci, (fs.map (pv B)).set k (pv B v)))) → va_S (fun q => B ≤ q) s.heap H1 locs1 → W p l e R s m args below meth c H1 locs1 (h.length - n0) n (E below args s B) (F0 m (pc + 3) ls (st.map (pv B))) := by
    intro H1 locs1 g1 g2 g3
    rw [← List.map_set] at g1
    refine W_size fun hle => ?_
    have hs := sim_set (c := .inr (ci, fs.set k v)) hA hc g1 (by omega) (fun ty a q => by cases q)
    have := kk p e s m args below meth c B H1 locs1 ls C hX h1 (by rw [List.length_set]; exact h2) hs g3 h5
    rw [List.length_set] at this
    exact this
  exact va_putF hx hb hts e4 ty0 e6 e7 hown hG.1 hP (pW_D B ca h) h4 a he hC k e2 (hts _ hl) same e8 (by rw [hnm, hY]) e3 e9 (hn B) (hfit B) (by rw [List.length_map]; exact hk) hd go
end PHP
