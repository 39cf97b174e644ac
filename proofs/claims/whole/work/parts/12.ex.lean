/-! EX: what exec says with fuel enough, as an equation for each kind of row -/
theorem exec_up : ∀ (n mid pc : Nat) (ls st : List Value) (h : List Cel) (x : Res) (k : Nat), exec n mid pc ls st h = some x → exec (n + k) mid pc ls st h = some x := by
  intro n
  induction n with
  | zero => intro mid pc ls st h x k hx; cases hx
  | succ n ih =>
    intro mid pc ls st h x k hx
    rw [show n + 1 + k = (n + k) + 1 by omega]
    unfold exec at hx ⊢
    split at hx
    · cases hx
    · rename_i op a b cc hf
      by_cases h1 : op < 60
      · rw [if_pos h1] at hx ⊢
        obtain ⟨q, hq, hx⟩ := Option.bind_eq_some_iff.mp hx
        exact Option.bind_eq_some_iff.mpr ⟨q, hq, ih _ _ _ _ _ _ k hx⟩
      · rw [if_neg h1] at hx ⊢
        by_cases h2 : op < 63
        · rw [if_pos h2] at hx ⊢
          by_cases h3 : cgo op b st h = true
          · rw [if_pos h3] at hx ⊢
            obtain ⟨q, hq, hx⟩ := Option.bind_eq_some_iff.mp hx
            exact Option.bind_eq_some_iff.mpr ⟨q, ih _ _ _ _ _ _ k hq, ih _ _ _ _ _ _ k hx⟩
          · rw [if_neg h3] at hx; cases hx
        · rw [if_neg h2] at hx ⊢
          exact hx
theorem exec_det {n k mid pc : Nat} {ls st : List Value} {h : List Cel} {x y : Res} (hx : exec n mid pc ls st h = some x) (hy : exec k mid pc ls st h = some y) : x = y := by
  have h1 := exec_up _ _ _ _ _ _ _ k hx
  have h2 := exec_up _ _ _ _ _ _ _ n hy
  rw [Nat.add_comm k n] at h2
  exact Option.some.inj (h1.symm.trans h2)
noncomputable def EX (mid pc : Nat) (ls st : List Value) (h : List Cel) : Option Res := @dite _ (∃ (r : Res) (n : Nat), exec n mid pc ls st h = some r) (Classical.propDecidable _) (fun H => some (Classical.choose H)) (fun _ => none)
theorem EX_iff {mid pc : Nat} {ls st : List Value} {h : List Cel} {r : Res} : EX mid pc ls st h = some r ↔ ∃ n, exec n mid pc ls st h = some r := by
  unfold EX
  constructor
  · intro H
    split at H
    · rename_i he
      cases H
      exact Classical.choose_spec he
    · cases H
  · intro ⟨n, hn⟩
    have he : ∃ (r : Res) (n : Nat), exec n mid pc ls st h = some r := ⟨r, n, hn⟩
    rw [dif_pos he]
    obtain ⟨k, hk⟩ := Classical.choose_spec he
    rw [exec_det hk hn]
section EXS
variable {mid pc op a b : Nat} {cc : Int} {ls st : List Value} {h : List Cel}
theorem EX_stp (hf : fetch mid pc = some (op, a, b, cc)) (hop : op < 60) : EX mid pc ls st h = (stp op a b cc pc ls st h).bind fun q => EX mid q.1 q.2.1 q.2.2.1 q.2.2.2 := by
  apply Option.ext
  intro r
  rw [EX_iff, Option.bind_eq_some_iff]
  constructor
  · rintro ⟨n, hn⟩
    cases n with
    | zero => cases hn
    | succ n =>
      unfold exec at hn
      rw [hf] at hn
      dsimp only at hn
      rw [if_pos hop] at hn
      obtain ⟨q, hq, hx⟩ := Option.bind_eq_some_iff.mp hn
      exact ⟨q, hq, EX_iff.mpr ⟨n, hx⟩⟩
  · rintro ⟨q, hq, hx⟩
    obtain ⟨n, hn⟩ := EX_iff.mp hx
    refine ⟨n + 1, ?_⟩
    unfold exec
    rw [hf]
    dsimp only
    rw [if_pos hop]
    exact Option.bind_eq_some_iff.mpr ⟨q, hq, hn⟩
theorem EX_call (hf : fetch mid pc = some (op, a, b, cc)) (h1 : ¬ op < 60) (h2 : op < 63) : EX mid pc ls st h = if cgo op b st h = true then (EX b 0 (entL b (st.take (nA b)).reverse) [] h).bind fun q => EX mid (pc + 3) ls (q.2.toList ++ st.drop (nA b)) q.1 else none := by
  apply Option.ext
  intro r
  rw [EX_iff]
  constructor
  · rintro ⟨n, hn⟩
    cases n with
    | zero => cases hn
    | succ n =>
      unfold exec at hn
      rw [hf] at hn
      dsimp only at hn
      rw [if_neg h1, if_pos h2] at hn
      split at hn
      · rename_i hc
        rw [if_pos hc]
        obtain ⟨q, hq, hx⟩ := Option.bind_eq_some_iff.mp hn
        exact Option.bind_eq_some_iff.mpr ⟨q, EX_iff.mpr ⟨n, hq⟩, EX_iff.mpr ⟨n, hx⟩⟩
      · cases hn
  · intro hx
    split at hx
    · rename_i hc
      obtain ⟨q, hq, hx⟩ := Option.bind_eq_some_iff.mp hx
      obtain ⟨n, hn⟩ := EX_iff.mp hq
      obtain ⟨k, hk⟩ := EX_iff.mp hx
      refine ⟨n + k + 1, ?_⟩
      unfold exec
      rw [hf]
      dsimp only
      rw [if_neg h1, if_pos h2, if_pos hc]
      refine Option.bind_eq_some_iff.mpr ⟨q, exec_up _ _ _ _ _ _ _ k hn, ?_⟩
      rw [Nat.add_comm n k]
      exact exec_up _ _ _ _ _ _ _ n hk
    · cases hx
theorem EX_rtn (hf : fetch mid pc = some (op, a, b, cc)) (h1 : ¬ op < 60) (h2 : ¬ op < 63) : EX mid pc ls st h = rtn op mid st h := by
  apply Option.ext
  intro r
  rw [EX_iff]
  constructor
  · rintro ⟨n, hn⟩
    cases n with
    | zero => cases hn
    | succ n =>
      unfold exec at hn
      rw [hf] at hn
      dsimp only at hn
      rw [if_neg h1, if_neg h2] at hn
      exact hn
  · intro hx
    refine ⟨1, ?_⟩
    unfold exec
    rw [hf]
    dsimp only
    rw [if_neg h1, if_neg h2]
    exact hx
-- a row, its equation
theorem e_k {v : Value} {n : Nat} {pc' : Nat} (hf : fetch mid pc = some (op, a, b, cc)) (hop : op < 60) (hs : stp op a b cc pc ls st h = some (pc', ls, v :: st, h)) : EX mid pc ls st h = EX mid pc' ls (v :: st) h := by
  rw [EX_stp hf hop, hs]; rfl
theorem e_g {q : Cfg} (hf : fetch mid pc = some (op, a, b, cc)) (hop : op < 60) (hs : stp op a b cc pc ls st h = some q) : EX mid pc ls st h = EX mid q.1 q.2.1 q.2.2.1 q.2.2.2 := by
  rw [EX_stp hf hop, hs]; rfl
theorem e_b {α : Type} {o : Option α} {f : α → Cfg} (hf : fetch mid pc = some (op, a, b, cc)) (hop : op < 60) (hs : stp op a b cc pc ls st h = o.bind fun v => some (f v)) : EX mid pc ls st h = o.bind fun v => EX mid (f v).1 (f v).2.1 (f v).2.2.1 (f v).2.2.2 := by
  rw [EX_stp hf hop, hs]
  cases o <;> rfl
theorem e_if {x y : Int32} {k : Nat} {pc1 pc2 : Nat} {st' : List Value} (hf : fetch mid pc = some (op, a, b, cc)) (hop : op < 60) (hs : stp op a b cc pc ls st h = some (if icm k x y = true then pc1 else pc2, ls, st', h)) : EX mid pc ls st h = if icm k x y = true then EX mid pc1 ls st' h else EX mid pc2 ls st' h := by
  rw [EX_stp hf hop, hs]
  split <;> rfl
theorem ic_0 {α : Type} {x y : Int32} {A B : α} : (if icm 0 x y = true then A else B) = if x = y then A else B := by
  show (if decide (x = y) = true then A else B) = _
  by_cases e : x = y
  · simp [e]
  · simp [e]
theorem ic_1 {α : Type} {x y : Int32} {A B : α} : (if icm 1 x y = true then A else B) = if x = y then B else A := by
  show (if decide (¬ x = y) = true then A else B) = _
  by_cases e : x = y
  · simp [e]
  · simp [e]
theorem ic_2 {α : Type} {x y : Int32} {A B : α} : (if icm 2 x y = true then A else B) = if x < y then A else B := by
  show (if decide (x < y) = true then A else B) = _
  by_cases e : x < y
  · simp [e]
  · simp [e]
theorem ic_3 {α : Type} {x y : Int32} {A B : α} : (if icm 3 x y = true then A else B) = if x < y then B else A := by
  show (if decide (y ≤ x) = true then A else B) = _
  by_cases e : x < y
  · rw [if_pos e, if_neg (fun z => Int32.not_le.mpr e (of_decide_eq_true z))]
  · rw [if_neg e, if_pos (decide_eq_true (Int32.not_lt.mp e))]
theorem ic_4 {α : Type} {x y : Int32} {A B : α} : (if icm 4 x y = true then A else B) = if y < x then A else B := by
  show (if decide (y < x) = true then A else B) = _
  by_cases e : y < x
  · simp [e]
  · simp [e]
theorem ic_5 {α : Type} {x y : Int32} {A B : α} : (if icm 5 x y = true then A else B) = if y < x then B else A := by
  show (if decide (x ≤ y) = true then A else B) = _
  by_cases e : y < x
  · rw [if_pos e, if_neg (fun z => Int32.not_le.mpr e (of_decide_eq_true z))]
  · rw [if_neg e, if_pos (decide_eq_true (Int32.not_lt.mp e))]
/-- an idiv, an irem: the divisor's test stays -/
theorem e_d {y z : Int32} {st' : List Value} {n : Nat} (hf : fetch mid pc = some (op, a, b, cc)) (hop : op < 60) (hs : stp op a b cc pc ls st h = if y = 0 then none else some (n, ls, .int z :: st', h)) : EX mid pc ls st h = if y = 0 then none else EX mid n ls (.int z :: st') h := by
  rw [EX_stp hf hop, hs]
  split <;> rfl
/-- what a call leaves on the stack -/
def pv (r : Option Value) (st : List Value) : List Value := r.toList ++ st
theorem pv_s (v : Value) (st : List Value) : pv (some v) st = v :: st := rfl
theorem pv_n (st : List Value) : pv none st = st := rfl
/-- is there an object of that class -/
def rc (h : List Cel) (i ci : Nat) : Bool := match h[i]? with
  | some (.inl (c, _)) => c == ci
  | _ => false
theorem e_cs {as rest : List Value} (hf : fetch mid pc = some (62, a, b, cc)) (h1 : cgo 62 b st h = true) (h2 : entL b (st.take (nA b)).reverse = as) (h3 : st.drop (nA b) = rest) : EX mid pc ls st h = (EX b 0 as [] h).bind fun q => EX mid (pc + 3) ls (pv q.2 rest) q.1 := by
  rw [EX_call hf (by decide) (by decide), if_pos h1, h2, h3]
  rfl
theorem e_ci {as rest : List Value} (hf : fetch mid pc = some (61, a, b, cc)) (h1 : cgo 61 b st h = true) (h2 : entL b (st.take (nA b)).reverse = as) (h3 : st.drop (nA b) = rest) : EX mid pc ls st h = (EX b 0 as [] h).bind fun q => EX mid (pc + 3) ls (pv q.2 rest) q.1 := by
  rw [EX_call hf (by decide) (by decide), if_pos h1, h2, h3]
  rfl
theorem e_cv {as rest : List Value} {i ci : Nat} (hf : fetch mid pc = some (60, a, b, cc)) (h1 : cgo 60 b st h = rc h i ci) (h2 : entL b (st.take (nA b)).reverse = as) (h3 : st.drop (nA b) = rest) : EX mid pc ls st h = if rc h i ci = true then (EX b 0 as [] h).bind fun q => EX mid (pc + 3) ls (pv q.2 rest) q.1 else none := by
  rw [EX_call hf (by decide) (by decide), h1, h2, h3]
  rfl
theorem e_r {x : Res} (hf : fetch mid pc = some (op, a, b, cc)) (h1 : 63 ≤ op) (h2 : rtn op mid st h = some x) : EX mid pc ls st h = some x := by
  rw [EX_rtn hf (by omega) (by omega), h2]
theorem e_rz {v : Int32} (hf : fetch mid pc = some (63, a, b, cc)) (hr : rO mid = some .boolean) : EX mid pc ls [.int v] h = if v &&& 1 = v then some (h, some (.int v)) else none := by
  rw [EX_rtn hf (by omega) (by omega)]
  show (if rO mid = some .int ∨ (rO mid = some .boolean ∧ v &&& 1 = v) then some (h, some (Value.int v)) else none) = _
  rw [hr]
  by_cases e : v &&& 1 = v
  · rw [if_pos e, if_pos (Or.inr ⟨rfl, e⟩)]
  · rw [if_neg e, if_neg (fun z => z.elim (fun z => by cases z) (fun z => e z.2))]
theorem e_ri {v : Int32} (hf : fetch mid pc = some (63, a, b, cc)) (hr : rO mid = some .int) : EX mid pc ls [.int v] h = some (h, some (.int v)) := by
  rw [EX_rtn hf (by omega) (by omega)]
  show (if rO mid = some .int ∨ (rO mid = some .boolean ∧ v &&& 1 = v) then some (h, some (Value.int v)) else none) = _
  rw [if_pos (Or.inl hr)]
theorem e_rl {v : Int64} (hf : fetch mid pc = some (64, a, b, cc)) (hr : rO mid = some .long) : EX mid pc ls [.long v] h = some (h, some (.long v)) := by
  rw [EX_rtn hf (by omega) (by omega)]
  exact if_pos hr
theorem e_rv (hf : fetch mid pc = some (65, a, b, cc)) (hr : rO mid = none) : EX mid pc ls [] h = some (h, none) := by
  rw [EX_rtn hf (by omega) (by omega)]
  exact if_pos hr
/-- a switch, key by key -/
noncomputable def swG (mid pc : Nat) (ls st : List Value) (h : List Cel) (o : Int) : Option Res := EX mid ((pc : Int) + o).toNat ls st h
theorem e_sw {x : Int32} {d : Int} {l : List (Int × Int)} (hf : fetch mid pc = some (op, a, b, cc)) (hop : op = 34 ∨ op = 35) (hs : tx_sw a = (d, l)) : EX mid pc ls (.int x :: st) h = swG mid pc ls st h (Op.lookupswitch.offset l d x.toInt) := by
  rcases hop with rfl | rfl
  · rw [EX_stp hf (by decide)]
    show EX mid _ _ _ _ = _
    rw [hs]
    rfl
  · rw [EX_stp hf (by decide)]
    show EX mid _ _ _ _ = _
    rw [hs]
    rfl
theorem sw_c {x K : Int32} {k o d : Int} {l : List (Int × Int)} (hk : K.toInt = k) : swG mid pc ls st h (Op.lookupswitch.offset ((k, o) :: l) d x.toInt) = if x = K then swG mid pc ls st h o else swG mid pc ls st h (Op.lookupswitch.offset l d x.toInt) := by
  rw [Op.lookupswitch.offset_cons]
  by_cases e : x = K
  · rw [if_pos e, if_pos (by rw [e, hk])]
  · rw [if_neg e, if_neg (fun z => e (Int32.toInt_inj.mp (by rw [hk, z])))]
end EXS
