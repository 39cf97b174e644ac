/-! the abstract machine: a heap is a list of cells (cell 0: the script), exec runs a method's body with fuel -/
abbrev Cel : Type := (Nat × List Value) ⊕ ((Nat × Nat × (Nat → Int32)) ⊕ (Nat × (Nat → Option Nat)))
abbrev Cfg : Type := Nat × List Value × List Value × List Cel
abbrev Res : Type := List Cel × Option Value
def gF (h : List Cel) (a ci k : Nat) : Option Value := match h[a]? with
  | some (.inl (c, fs)) => if c = ci then fs[k]? else none
  | _ => none
def pF (h : List Cel) (a ci k : Nat) (v : Value) : Option (List Cel) := match h[a]? with
  | some (.inl (c, fs)) => if c = ci ∧ k < fs.length ∧ narrow (tx_ty ci k) v = v ∧ fits (tx_ty ci k) v = true then some (h.set a (.inl (c, fs.set k v))) else none
  | _ => none
def vB (i : Int32) (n : Nat) : Bool := !(decide (i < 0) || decide (n ≤ i.toNatClampNeg))
theorem vB_in {i : Int32} {n : Nat} (h : vB i n = true) : vp_in i n := by
  simp only [vB, Bool.not_eq_true', Bool.or_eq_false_iff, decide_eq_false_iff_not] at h
  exact fun q => q.elim h.1 h.2
def gA (h : List Cel) (a : Nat) (i : Int32) : Option Int32 := match h[a]? with
  | some (.inr (.inl (k, n, f))) => if k ≠ 1 ∧ vB i n = true then some (f i.toNatClampNeg) else none
  | _ => none
def gZ (h : List Cel) (a : Nat) (i : Int32) : Option Int32 := match h[a]? with
  | some (.inr (.inl (k, n, f))) => if k = 1 ∧ vB i n = true then some (f i.toNatClampNeg) else none
  | _ => none
def pA (h : List Cel) (a : Nat) (i x : Int32) : Option (List Cel) := match h[a]? with
  | some (.inr (.inl (k, n, f))) => if k = 0 ∧ vB i n = true then some (h.set a (.inr (.inl (k, n, upd f i.toNatClampNeg x)))) else none
  | _ => none
def pZ (h : List Cel) (a : Nat) (i x : Int32) : Option (List Cel) := match h[a]? with
  | some (.inr (.inl (k, n, f))) => if k = 1 ∧ vB i n = true ∧ x &&& 1 = x then some (h.set a (.inr (.inl (k, n, upd f i.toNatClampNeg x)))) else none
  | _ => none
def gQ (h : List Cel) (a : Nat) (i : Int32) : Option Value := match h[a]? with
  | some (.inr (.inr (n, g))) => if vB i n = true then some (va_rf (g i.toNatClampNeg)) else none
  | _ => none
def pQ (h : List Cel) (a : Nat) (i : Int32) (q : Nat) : Option (List Cel) := match h[a]?, h[q]? with
  | some (.inr (.inr (n, g))), some (.inl (0, _)) => if vB i n = true then some (h.set a (.inr (.inr (n, va_up g i.toNatClampNeg (some q))))) else none
  | _, _ => none
def gL (h : List Cel) (a : Nat) : Option Int32 := if a = 0 then match (h[0]? : Option Cel) with
  | some (.inr (.inl (_, n, _))) => some (Int32.ofNat n)
  | _ => none
  else none
def csz : Cel → Nat
  | .inl (_, fs) => fs.length
  | .inr (.inl (_, n, _)) => n
  | .inr (.inr (n, _)) => n
def sl (h : List Cel) : Nat := (h.map csz).sum
def c1 (v : Value) : Bool := v.category == 1
def isV : Value → Bool
  | .int _ => true
  | .ref _ => true
  | .null => true
  | _ => false
def wt (st : List Value) : Nat := (st.map fun v => v.category).sum
def dfl (ci : Nat) : List Value := (List.range (tx_N ci)).map fun j => defaultValue (tx_ty ci j)
/-- the switches: default, and pairs of a key and an offset -/
def icm (k : Nat) (x y : Int32) : Bool := match k with
  | 0 => decide (x = y)
  | 1 => decide (¬ x = y)
  | 2 => decide (x < y)
  | 3 => decide (y ≤ x)
  | 4 => decide (y < x)
  | _ => decide (x ≤ y)
/-- push an int -/
def pu (pc n : Nat) (ls st : List Value) (h : List Cel) (v : Value) : Option Cfg := some (pc + n, ls, v :: st, h)
def bin (f : Int32 → Int32 → Int32) (pc : Nat) (ls : List Value) : List Value → List Cel → Option Cfg
  | .int y :: .int x :: r, h => some (pc + 1, ls, .int (f x y) :: r, h)
  | _, _ => none
def lod (n a pc : Nat) (ls st : List Value) (h : List Cel) : Option Cfg := match ls[a]? with
  | some (.int x) => some (pc + n, ls, .int x :: st, h)
  | _ => none
def loa (a pc : Nat) (ls st : List Value) (h : List Cel) : Option Cfg := match ls[a]? with
  | some (.ref x) => some (pc + 1, ls, .ref x :: st, h)
  | _ => none
def sto (n a pc : Nat) (ls : List Value) : List Value → List Cel → Option Cfg
  | .int x :: r, h => some (pc + n, ls.set a (.int x), r, h)
  | _, _ => none
def o_11 (a b : Nat) (c : Int) (pc : Nat) (ls st : List Value) (h : List Cel) : Option Cfg := match st with
  | .ref x :: r => some (pc + 1, ls.set a (.ref x), r, h)
  | _ => none
def o_12 (a b : Nat) (c : Int) (pc : Nat) (ls st : List Value) (h : List Cel) : Option Cfg := match ls[a]? with
  | some (.int x) => some (pc + 3, ls.set a (.int (x + Int32.ofInt c)), st, h)
  | _ => none
def o_16 (a b : Nat) (c : Int) (pc : Nat) (ls st : List Value) (h : List Cel) : Option Cfg := match st with
  | .int y :: .int x :: r => if y = 0 then none else some (pc + 1, ls, .int (x / y) :: r, h)
  | _ => none
def o_17 (a b : Nat) (c : Int) (pc : Nat) (ls st : List Value) (h : List Cel) : Option Cfg := match st with
  | .int y :: .int x :: r => if y = 0 then none else some (pc + 1, ls, .int (x - x / y * y) :: r, h)
  | _ => none
def o_18 (a b : Nat) (c : Int) (pc : Nat) (ls st : List Value) (h : List Cel) : Option Cfg := match st with
  | .int x :: r => some (pc + 1, ls, .int (-x) :: r, h)
  | _ => none
def o_24 (a b : Nat) (c : Int) (pc : Nat) (ls st : List Value) (h : List Cel) : Option Cfg := match st with
  | .long y :: .long x :: r => some (pc + 1, ls, .long (x + y) :: r, h)
  | _ => none
def o_25 (a b : Nat) (c : Int) (pc : Nat) (ls st : List Value) (h : List Cel) : Option Cfg := match st with
  | .long y :: .long x :: r => some (pc + 1, ls, .int (lg_cmp x y) :: r, h)
  | _ => none
def o_26 (a b : Nat) (c : Int) (pc : Nat) (ls st : List Value) (h : List Cel) : Option Cfg := match st with
  | v :: r => if c1 v = true then some (pc + 1, ls, v :: v :: r, h) else none
  | _ => none
def o_27 (a b : Nat) (c : Int) (pc : Nat) (ls st : List Value) (h : List Cel) : Option Cfg := match st with
  | v :: w :: r => if c1 v = true ∧ c1 w = true then some (pc + 1, ls, v :: w :: v :: w :: r, h) else none
  | _ => none
def o_28 (a b : Nat) (c : Int) (pc : Nat) (ls st : List Value) (h : List Cel) : Option Cfg := match st with
  | v :: r => if c1 v = true then some (pc + 1, ls, r, h) else none
  | _ => none
def o_29 (a b : Nat) (c : Int) (pc : Nat) (ls st : List Value) (h : List Cel) : Option Cfg := match st with
  | .int x :: r => some (if icm a x 0 = true then b else pc + 3, ls, r, h)
  | _ => none
def o_30 (a b : Nat) (c : Int) (pc : Nat) (ls st : List Value) (h : List Cel) : Option Cfg := match st with
  | .int y :: .int x :: r => some (if icm a x y = true then b else pc + 3, ls, r, h)
  | _ => none
def o_32 (a b : Nat) (c : Int) (pc : Nat) (ls st : List Value) (h : List Cel) : Option Cfg := match st with
  | .ref _ :: r => some (pc + 3, ls, r, h)
  | _ => none
def o_33 (a b : Nat) (c : Int) (pc : Nat) (ls st : List Value) (h : List Cel) : Option Cfg := match st with
  | .ref _ :: r => some (b, ls, r, h)
  | _ => none
def o_34 (a b : Nat) (c : Int) (pc : Nat) (ls st : List Value) (h : List Cel) : Option Cfg := match st with
  | .int x :: r => some (((pc : Int) + Op.lookupswitch.offset (tx_sw a).2 (tx_sw a).1 x.toInt).toNat, ls, r, h)
  | _ => none
def o_35 (a b : Nat) (c : Int) (pc : Nat) (ls st : List Value) (h : List Cel) : Option Cfg := match st with
  | .int x :: r => some (((pc : Int) + Op.lookupswitch.offset (tx_sw a).2 (tx_sw a).1 x.toInt).toNat, ls, r, h)
  | _ => none
def o_36 (a b : Nat) (c : Int) (pc : Nat) (ls st : List Value) (h : List Cel) : Option Cfg := match st with
  | .ref q :: r => (gF h q (b / 64) (b % 64)).bind fun v => some (pc + 3, ls, v :: r, h)
  | _ => none
def o_37 (a b : Nat) (c : Int) (pc : Nat) (ls st : List Value) (h : List Cel) : Option Cfg := match st with
  | v :: .ref q :: r => (pF h q (b / 64) (b % 64) v).bind fun h' => some (pc + 3, ls, r, h')
  | _ => none
def o_38 (a b : Nat) (c : Int) (pc : Nat) (ls st : List Value) (h : List Cel) : Option Cfg := match st with
  | .int i :: .ref q :: r => (gA h q i).bind fun x => some (pc + 1, ls, .int x :: r, h)
  | _ => none
def o_39 (a b : Nat) (c : Int) (pc : Nat) (ls st : List Value) (h : List Cel) : Option Cfg := match st with
  | .int x :: .int i :: .ref q :: r => (pA h q i x).bind fun h' => some (pc + 1, ls, r, h')
  | _ => none
def o_40 (a b : Nat) (c : Int) (pc : Nat) (ls st : List Value) (h : List Cel) : Option Cfg := match st with
  | .int i :: .ref q :: r => (gZ h q i).bind fun x => some (pc + 1, ls, .int x :: r, h)
  | _ => none
def o_41 (a b : Nat) (c : Int) (pc : Nat) (ls st : List Value) (h : List Cel) : Option Cfg := match st with
  | .int x :: .int i :: .ref q :: r => (pZ h q i x).bind fun h' => some (pc + 1, ls, r, h')
  | _ => none
def o_42 (a b : Nat) (c : Int) (pc : Nat) (ls st : List Value) (h : List Cel) : Option Cfg := match st with
  | .int i :: .ref q :: r => (gQ h q i).bind fun v => some (pc + 1, ls, v :: r, h)
  | _ => none
def o_43 (a b : Nat) (c : Int) (pc : Nat) (ls st : List Value) (h : List Cel) : Option Cfg := match st with
  | .ref v :: .int i :: .ref q :: r => (pQ h q i v).bind fun h' => some (pc + 1, ls, r, h')
  | _ => none
def o_44 (a b : Nat) (c : Int) (pc : Nat) (ls st : List Value) (h : List Cel) : Option Cfg := match st with
  | .ref q :: r => (gL h q).bind fun x => some (pc + 1, ls, .int x :: r, h)
  | _ => none
def o_45 (a b : Nat) (c : Int) (pc : Nat) (ls st : List Value) (h : List Cel) : Option Cfg := match st with
  | .int n :: r => if n < 0 ∨ 1000 < n.toNatClampNeg then none else some (pc + 2, ls, .ref h.length :: r, h ++ [.inr (.inl (a, n.toNatClampNeg, fun _ => 0))])
  | _ => none
def o_46 (a b : Nat) (c : Int) (pc : Nat) (ls st : List Value) (h : List Cel) : Option Cfg := match st with
  | .int n :: r => if n < 0 ∨ 1000 < n.toNatClampNeg then none else some (pc + 3, ls, .ref h.length :: r, h ++ [.inr (.inr (n.toNatClampNeg, fun _ => none))])
  | _ => none
def o_48 (a b : Nat) (c : Int) (pc : Nat) (ls st : List Value) (h : List Cel) : Option Cfg := match st with
  | .ref _ :: r => if wt r ≤ 8 then some (pc + 3, ls, r, h) else none
  | _ => none
def o_49 (a b : Nat) (c : Int) (pc : Nat) (ls st : List Value) (h : List Cel) : Option Cfg := match b, st with
  | 0, .int x :: r => if wt r ≤ 8 then some (pc + 3, ls, .int (if 0 ≤ x then x else 0 - x) :: r, h) else none
  | 1, .int y :: .int x :: r => if wt r ≤ 8 then some (pc + 3, ls, .int (if x < y then y else x) :: r, h) else none
  | 2, .int y :: .int x :: r => if wt r ≤ 8 then some (pc + 3, ls, .int (if y < x then y else x) :: r, h) else none
  | _, _ => none
def stp (op a b : Nat) (c : Int) (pc : Nat) (ls st : List Value) (h : List Cel) : Option Cfg := match op with
  | 0 => pu pc 1 ls st h (.int (Int32.ofInt c))
  | 1 => pu pc 2 ls st h (.int (Int32.ofInt c))
  | 2 => pu pc 3 ls st h (.int (Int32.ofInt c))
  | 3 => pu pc 2 ls st h (.int (Int32.ofInt c))
  | 4 => pu pc 3 ls st h (.long (Int64.ofInt c))
  | 5 => pu pc 1 ls st h (.long (Int64.ofNat a))
  | 6 => lod 1 a pc ls st h
  | 7 => lod 2 a pc ls st h
  | 8 => loa a pc ls st h
  | 9 => sto 1 a pc ls st h
  | 10 => sto 2 a pc ls st h
  | 11 => o_11 a b c pc ls st h
  | 12 => o_12 a b c pc ls st h
  | 13 => bin (· + ·) pc ls st h
  | 14 => bin (· - ·) pc ls st h
  | 15 => bin (· * ·) pc ls st h
  | 16 => o_16 a b c pc ls st h
  | 17 => o_17 a b c pc ls st h
  | 18 => o_18 a b c pc ls st h
  | 19 => bin (· &&& ·) pc ls st h
  | 20 => bin (· ||| ·) pc ls st h
  | 21 => bin (fun x y => x <<< (y &&& 31)) pc ls st h
  | 22 => bin (fun x y => x >>> (y &&& 31)) pc ls st h
  | 23 => bin (fun x y => (x.toUInt32 >>> (y.toUInt32 &&& Int32.toUInt32 31)).toInt32) pc ls st h
  | 24 => o_24 a b c pc ls st h
  | 25 => o_25 a b c pc ls st h
  | 26 => o_26 a b c pc ls st h
  | 27 => o_27 a b c pc ls st h
  | 28 => o_28 a b c pc ls st h
  | 29 => o_29 a b c pc ls st h
  | 30 => o_30 a b c pc ls st h
  | 31 => some (b, ls, st, h)
  | 32 => o_32 a b c pc ls st h
  | 33 => o_33 a b c pc ls st h
  | 34 => o_34 a b c pc ls st h
  | 35 => o_35 a b c pc ls st h
  | 36 => o_36 a b c pc ls st h
  | 37 => o_37 a b c pc ls st h
  | 38 => o_38 a b c pc ls st h
  | 39 => o_39 a b c pc ls st h
  | 40 => o_40 a b c pc ls st h
  | 41 => o_41 a b c pc ls st h
  | 42 => o_42 a b c pc ls st h
  | 43 => o_43 a b c pc ls st h
  | 44 => o_44 a b c pc ls st h
  | 45 => o_45 a b c pc ls st h
  | 46 => o_46 a b c pc ls st h
  | 47 => some (pc + 3, ls, .ref h.length :: st, h ++ [.inl (b, dfl b)])
  | 48 => o_48 a b c pc ls st h
  | 49 => o_49 a b c pc ls st h
  | 50 => pu pc 3 ls st h (.int (Int32.ofInt c))
  | _ => none
def entL (k : Nat) (as : List Value) : List Value := as ++ List.replicate (lO k - as.length) (.float 0)
/-- may this call go on: enough arguments, of one word each, little left below; a receiver of the class -/
def cgo (op k : Nat) (st : List Value) (h : List Cel) : Bool :=
  decide (nA k ≤ st.length) && (st.take (nA k)).all isV && decide (wt (st.drop (nA k)) ≤ 8) &&
  (op == 62 || match (st.take (nA k)).reverse with
    | .ref i :: _ => (op == 61 || match h[i]? with
      | some (.inl (ci, _)) => ci == oO k
      | _ => false)
    | _ => false)
def rtn (op mid : Nat) (st : List Value) (h : List Cel) : Option Res := match op, st with
  | 63, [.int v] => if rO mid = some .int ∨ (rO mid = some .boolean ∧ v &&& 1 = v) then some (h, some (.int v)) else none
  | 64, [.long v] => if rO mid = some .long then some (h, some (.long v)) else none
  | 65, [] => if rO mid = none then some (h, none) else none
  | _, _ => none
def exec : Nat → Nat → Nat → List Value → List Value → List Cel → Option Res
  | 0, _, _, _, _, _ => none
  | n + 1, mid, pc, ls, st, h => match fetch mid pc with
    | none => none
    | some (op, a, b, c) =>
      if op < 60 then (stp op a b c pc ls st h).bind fun q => exec n mid q.1 q.2.1 q.2.2.1 q.2.2.2
      else if op < 63 then
        if cgo op b st h = true then (exec n b 0 (entL b (st.take (nA b)).reverse) [] h).bind fun q => exec n mid (pc + 3) ls (q.2.toList ++ st.drop (nA b)) q.1 else none
      else rtn op mid st h
