abbrev WS : Type := Int32 × Int32 × Int32 × Int32 × (Nat → Int32) × (Nat → Int32) × (Nat → Int32) × (Nat → Int32) × (Nat → Int32) × (Nat → Int32) × (Nat → Int32) × (Nat → Int32)
def wlv (S : WS) : Int32 := S.1
def wyr (S : WS) : Int32 := S.2.1
def wsg (S : WS) : Int32 := S.2.2.1
def wop (S : WS) : Int32 := S.2.2.2.1
def wmk (S : WS) : Nat → Int32 := S.2.2.2.2.1
def wpu (S : WS) : Nat → Int32 := S.2.2.2.2.2.1
def wwa (S : WS) : Nat → Int32 := S.2.2.2.2.2.2.1
def wde (S : WS) : Nat → Int32 := S.2.2.2.2.2.2.2.1
def wwn (S : WS) : Nat → Int32 := S.2.2.2.2.2.2.2.2.1
def whi (S : WS) : Nat → Int32 := S.2.2.2.2.2.2.2.2.2.1
def wco (S : WS) : Nat → Int32 := S.2.2.2.2.2.2.2.2.2.2.1
def wsm (S : WS) : Nat → Int32 := S.2.2.2.2.2.2.2.2.2.2.2
def slv (S : WS) (x : Int32) : WS := (x, wyr S, wsg S, wop S, wmk S, wpu S, wwa S, wde S, wwn S, whi S, wco S, wsm S)
def syr (S : WS) (x : Int32) : WS := (wlv S, x, wsg S, wop S, wmk S, wpu S, wwa S, wde S, wwn S, whi S, wco S, wsm S)
def ssg (S : WS) (x : Int32) : WS := (wlv S, wyr S, x, wop S, wmk S, wpu S, wwa S, wde S, wwn S, whi S, wco S, wsm S)
def sop (S : WS) (x : Int32) : WS := (wlv S, wyr S, wsg S, x, wmk S, wpu S, wwa S, wde S, wwn S, whi S, wco S, wsm S)
def smk (S : WS) (x : Nat → Int32) : WS := (wlv S, wyr S, wsg S, wop S, x, wpu S, wwa S, wde S, wwn S, whi S, wco S, wsm S)
def spu (S : WS) (x : Nat → Int32) : WS := (wlv S, wyr S, wsg S, wop S, wmk S, x, wwa S, wde S, wwn S, whi S, wco S, wsm S)
def swa (S : WS) (x : Nat → Int32) : WS := (wlv S, wyr S, wsg S, wop S, wmk S, wpu S, x, wde S, wwn S, whi S, wco S, wsm S)
def sde (S : WS) (x : Nat → Int32) : WS := (wlv S, wyr S, wsg S, wop S, wmk S, wpu S, wwa S, x, wwn S, whi S, wco S, wsm S)
def swn (S : WS) (x : Nat → Int32) : WS := (wlv S, wyr S, wsg S, wop S, wmk S, wpu S, wwa S, wde S, x, whi S, wco S, wsm S)
def shi (S : WS) (x : Nat → Int32) : WS := (wlv S, wyr S, wsg S, wop S, wmk S, wpu S, wwa S, wde S, wwn S, x, wco S, wsm S)
def sco (S : WS) (x : Nat → Int32) : WS := (wlv S, wyr S, wsg S, wop S, wmk S, wpu S, wwa S, wde S, wwn S, whi S, x, wsm S)
def ssm (S : WS) (x : Nat → Int32) : WS := (wlv S, wyr S, wsg S, wop S, wmk S, wpu S, wwa S, wde S, wwn S, whi S, wco S, x)
def wobj (b : Nat) (S : WS) : PC := .inr (5, [.int (wlv S), .int (wyr S), .int (wsg S), .int (wop S), .ref (b + 1), .ref (b + 2), .ref (b + 3), .ref (b + 4), .ref (b + 5), .ref (b + 6), .ref (b + 7), .ref (b + 8)])
def wc (b : Nat) (S : WS) : PH := [wobj b S, ia 8 (wmk S), ia 8 (wpu S), ia 8 (wwa S), ia 64 (wde S), ia 6 (wwn S), ia 6 (whi S), ia 6 (wco S), ia 8 (wsm S)]
def wput (h : PH) (b : Nat) (S : WS) : PH := h.take b ++ (wc b S ++ h.drop (b + 9))
theorem wlen {h : PH} {b : Nat} {S : WS} (hb : b + 8 < h.length) : (wput h b S).length = h.length := by
  have h1 : (wc b S).length = 9 := rfl
  simp only [wput, List.length_append, List.length_take, List.length_drop, h1]
  omega
theorem wat {h : PH} {b k : Nat} {S : WS} {c : PC} (hb : b + 8 < h.length) (hk : k < 9) (hc : (wc b S)[k]? = some c) : (wput h b S)[b + k]? = some c := by
  have h1 : (wc b S).length = 9 := rfl
  unfold wput
  rw [List.getElem?_append_right (by rw [List.length_take]; omega), List.length_take, Nat.min_eq_left (by omega), Nat.add_sub_cancel_left, List.getElem?_append_left (by omega)]
  exact hc
theorem wst {h : PH} {b k : Nat} {S S2 : WS} {c : PC} (hb : b + 8 < h.length) (hk : k < 9) (hc : (wc b S).set k c = wc b S2) : (wput h b S).set (b + k) c = wput h b S2 := by
  have h1 : (wc b S).length = 9 := rfl
  unfold wput
  rw [List.set_append_right _ _ (by rw [List.length_take]; omega), List.length_take, Nat.min_eq_left (by omega), Nat.add_sub_cancel_left, List.set_append_left _ _ (by omega), hc]
theorem wput2 {h : PH} {b : Nat} {S S2 : WS} (hb : b + 8 < h.length) : wput (wput h b S) b S2 = wput h b S2 := by
  have h1 : (wc b S).length = 9 := rfl
  have e1 : (wput h b S).take b = h.take b := by
    unfold wput
    rw [List.take_append_of_le_length (by rw [List.length_take]; omega), List.take_take, Nat.min_self]
  have e2 : (wput h b S).drop (b + 9) = h.drop (b + 9) := by
    unfold wput
    rw [List.drop_append, List.length_take, Nat.min_eq_left (by omega), Nat.add_sub_cancel_left, List.drop_of_length_le (by rw [List.length_take]; omega), List.drop_append, h1, Nat.sub_self, List.drop_of_length_le (by omega)]
    rfl
  show (wput h b S).take b ++ (wc b S2 ++ (wput h b S).drop (b + 9)) = _
  rw [e1, e2]; rfl
theorem wg0 {h : PH} {b : Nat} {S : WS} (hb : b + 8 < h.length) : (wput h b S)[b]? = some (.inr (5, [.int (wlv S), .int (wyr S), .int (wsg S), .int (wop S), .ref (b + 1), .ref (b + 2), .ref (b + 3), .ref (b + 4), .ref (b + 5), .ref (b + 6), .ref (b + 7), .ref (b + 8)])) := wat (k := 0) hb (by decide) rfl
theorem wg1 {h : PH} {b : Nat} {S : WS} (hb : b + 8 < h.length) : (wput h b S)[b + 1]? = some (ia 8 (wmk S)) := wat (k := 1) hb (by decide) rfl
theorem wg2 {h : PH} {b : Nat} {S : WS} (hb : b + 8 < h.length) : (wput h b S)[b + 2]? = some (ia 8 (wpu S)) := wat (k := 2) hb (by decide) rfl
theorem wg3 {h : PH} {b : Nat} {S : WS} (hb : b + 8 < h.length) : (wput h b S)[b + 3]? = some (ia 8 (wwa S)) := wat (k := 3) hb (by decide) rfl
theorem wg4 {h : PH} {b : Nat} {S : WS} (hb : b + 8 < h.length) : (wput h b S)[b + 4]? = some (ia 64 (wde S)) := wat (k := 4) hb (by decide) rfl
theorem wg5 {h : PH} {b : Nat} {S : WS} (hb : b + 8 < h.length) : (wput h b S)[b + 5]? = some (ia 6 (wwn S)) := wat (k := 5) hb (by decide) rfl
theorem wg6 {h : PH} {b : Nat} {S : WS} (hb : b + 8 < h.length) : (wput h b S)[b + 6]? = some (ia 6 (whi S)) := wat (k := 6) hb (by decide) rfl
theorem wg7 {h : PH} {b : Nat} {S : WS} (hb : b + 8 < h.length) : (wput h b S)[b + 7]? = some (ia 6 (wco S)) := wat (k := 7) hb (by decide) rfl
theorem wg8 {h : PH} {b : Nat} {S : WS} (hb : b + 8 < h.length) : (wput h b S)[b + 8]? = some (ia 8 (wsm S)) := wat (k := 8) hb (by decide) rfl
section PWO
variable {l : Launch} {D : va_G} {Y : PMth} {R : Room} {n0 : Nat} {X : State → Array Value → Nat → Prop} {E : List Frame → Array Value → State → Nat → State → Prop} {pc nx : Nat} {L : List (Option Value)} {st st0 : List Value} {h h2 : PH} {n b : Nat} {S : WS}
theorem w_pW0 {v : Int32} {idx : Nat} (hd : dc Y.2.1 pc (.putfield idx) 3 nx) (hf : FLp Y.1.cls idx 5 0 false .int) (hb : b + 8 < h.length) (kk : Wp l D Y R n0 X E nx L st (wput h b (slv S v)) n) : Wp l D Y R n0 X E pc L (.int v :: .ref b :: st) (wput h b S) n := by
  refine w_put hd hf (wg0 hb) (Nat.le_of_ble_eq_true rfl) (fun _ => rfl) (fun _ => rfl) ?_
  refine w_heq (wst (k := 0) hb (by decide) rfl) kk
theorem w_pW1 {v : Int32} {idx : Nat} (hd : dc Y.2.1 pc (.putfield idx) 3 nx) (hf : FLp Y.1.cls idx 5 1 false .int) (hb : b + 8 < h.length) (kk : Wp l D Y R n0 X E nx L st (wput h b (syr S v)) n) : Wp l D Y R n0 X E pc L (.int v :: .ref b :: st) (wput h b S) n := by
  refine w_put hd hf (wg0 hb) (Nat.le_of_ble_eq_true rfl) (fun _ => rfl) (fun _ => rfl) ?_
  refine w_heq (wst (k := 0) hb (by decide) rfl) kk
theorem w_pW2 {v : Int32} {idx : Nat} (hd : dc Y.2.1 pc (.putfield idx) 3 nx) (hf : FLp Y.1.cls idx 5 2 false .int) (hb : b + 8 < h.length) (kk : Wp l D Y R n0 X E nx L st (wput h b (ssg S v)) n) : Wp l D Y R n0 X E pc L (.int v :: .ref b :: st) (wput h b S) n := by
  refine w_put hd hf (wg0 hb) (Nat.le_of_ble_eq_true rfl) (fun _ => rfl) (fun _ => rfl) ?_
  refine w_heq (wst (k := 0) hb (by decide) rfl) kk
theorem w_pW3 {v : Int32} {idx : Nat} (hd : dc Y.2.1 pc (.putfield idx) 3 nx) (hf : FLp Y.1.cls idx 5 3 false .int) (hb : b + 8 < h.length) (kk : Wp l D Y R n0 X E nx L st (wput h b (sop S v)) n) : Wp l D Y R n0 X E pc L (.int v :: .ref b :: st) (wput h b S) n := by
  refine w_put hd hf (wg0 hb) (Nat.le_of_ble_eq_true rfl) (fun _ => rfl) (fun _ => rfl) ?_
  refine w_heq (wst (k := 0) hb (by decide) rfl) kk
theorem w_aW1 {i x : Int32} (hd : dc Y.2.1 pc .iastore 1 nx) (hb : b + 8 < h.length) (hi : vp_in i 8) (kk : Wp l D Y R n0 X E nx L st (wput h b (smk S (upd (wmk S) i.toNatClampNeg x))) n) : Wp l D Y R n0 X E pc L (.int x :: .int i :: .ref (b + 1) :: st) (wput h b S) n := by
  refine w_iast hd (wg1 hb) hi ?_
  refine w_heq (wst (k := 1) hb (by decide) rfl) kk
theorem w_aW2 {i x : Int32} (hd : dc Y.2.1 pc .iastore 1 nx) (hb : b + 8 < h.length) (hi : vp_in i 8) (kk : Wp l D Y R n0 X E nx L st (wput h b (spu S (upd (wpu S) i.toNatClampNeg x))) n) : Wp l D Y R n0 X E pc L (.int x :: .int i :: .ref (b + 2) :: st) (wput h b S) n := by
  refine w_iast hd (wg2 hb) hi ?_
  refine w_heq (wst (k := 2) hb (by decide) rfl) kk
theorem w_aW3 {i x : Int32} (hd : dc Y.2.1 pc .iastore 1 nx) (hb : b + 8 < h.length) (hi : vp_in i 8) (kk : Wp l D Y R n0 X E nx L st (wput h b (swa S (upd (wwa S) i.toNatClampNeg x))) n) : Wp l D Y R n0 X E pc L (.int x :: .int i :: .ref (b + 3) :: st) (wput h b S) n := by
  refine w_iast hd (wg3 hb) hi ?_
  refine w_heq (wst (k := 3) hb (by decide) rfl) kk
theorem w_aW4 {i x : Int32} (hd : dc Y.2.1 pc .iastore 1 nx) (hb : b + 8 < h.length) (hi : vp_in i 64) (kk : Wp l D Y R n0 X E nx L st (wput h b (sde S (upd (wde S) i.toNatClampNeg x))) n) : Wp l D Y R n0 X E pc L (.int x :: .int i :: .ref (b + 4) :: st) (wput h b S) n := by
  refine w_iast hd (wg4 hb) hi ?_
  refine w_heq (wst (k := 4) hb (by decide) rfl) kk
theorem w_aW5 {i x : Int32} (hd : dc Y.2.1 pc .iastore 1 nx) (hb : b + 8 < h.length) (hi : vp_in i 6) (kk : Wp l D Y R n0 X E nx L st (wput h b (swn S (upd (wwn S) i.toNatClampNeg x))) n) : Wp l D Y R n0 X E pc L (.int x :: .int i :: .ref (b + 5) :: st) (wput h b S) n := by
  refine w_iast hd (wg5 hb) hi ?_
  refine w_heq (wst (k := 5) hb (by decide) rfl) kk
theorem w_aW6 {i x : Int32} (hd : dc Y.2.1 pc .iastore 1 nx) (hb : b + 8 < h.length) (hi : vp_in i 6) (kk : Wp l D Y R n0 X E nx L st (wput h b (shi S (upd (whi S) i.toNatClampNeg x))) n) : Wp l D Y R n0 X E pc L (.int x :: .int i :: .ref (b + 6) :: st) (wput h b S) n := by
  refine w_iast hd (wg6 hb) hi ?_
  refine w_heq (wst (k := 6) hb (by decide) rfl) kk
theorem w_aW7 {i x : Int32} (hd : dc Y.2.1 pc .iastore 1 nx) (hb : b + 8 < h.length) (hi : vp_in i 6) (kk : Wp l D Y R n0 X E nx L st (wput h b (sco S (upd (wco S) i.toNatClampNeg x))) n) : Wp l D Y R n0 X E pc L (.int x :: .int i :: .ref (b + 7) :: st) (wput h b S) n := by
  refine w_iast hd (wg7 hb) hi ?_
  refine w_heq (wst (k := 7) hb (by decide) rfl) kk
theorem w_aW8 {i x : Int32} (hd : dc Y.2.1 pc .iastore 1 nx) (hb : b + 8 < h.length) (hi : vp_in i 8) (kk : Wp l D Y R n0 X E nx L st (wput h b (ssm S (upd (wsm S) i.toNatClampNeg x))) n) : Wp l D Y R n0 X E pc L (.int x :: .int i :: .ref (b + 8) :: st) (wput h b S) n := by
  refine w_iast hd (wg8 hb) hi ?_
  refine w_heq (wst (k := 8) hb (by decide) rfl) kk
end PWO
