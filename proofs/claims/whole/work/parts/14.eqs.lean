/-! an equation for each operation; the rows' equations are made of these by program (wip/whole/gen3.py) -/
section EQ
variable {mid pc a b : Nat} {cc : Int} {ls ls' st : List Value} {h : List Cel} {x y v : Int32}
theorem e_G {op pc' : Nat} {ls2 st2 : List Value} {h2 : List Cel} (hf : fetch mid pc = some (op, a, b, cc)) (hop : op < 60) (hs : stp op a b cc pc ls st h = some (pc', ls2, st2, h2)) : EX mid pc ls st h = EX mid pc' ls2 st2 h2 := e_g hf hop hs
theorem e_Bv {α : Type} {o : Option α} {F : α → Value} {op pc' : Nat} {ls2 st2 : List Value} {h2 : List Cel} (hf : fetch mid pc = some (op, a, b, cc)) (hop : op < 60) (hs : stp op a b cc pc ls st h = o.bind fun v => some (pc', ls2, F v :: st2, h2)) : EX mid pc ls st h = o.bind fun v => EX mid pc' ls2 (F v :: st2) h2 := e_b (f := fun v => (pc', ls2, F v :: st2, h2)) hf hop hs
theorem e_Bh {o : Option (List Cel)} {op pc' : Nat} {ls2 st2 : List Value} (hf : fetch mid pc = some (op, a, b, cc)) (hop : op < 60) (hs : stp op a b cc pc ls st h = o.bind fun v => some (pc', ls2, st2, v)) : EX mid pc ls st h = o.bind fun v => EX mid pc' ls2 st2 v := e_b (f := fun v => (pc', ls2, st2, v)) hf hop hs
theorem e_0 (hf : fetch mid pc = some (0, a, b, cc)) (hv : Int32.ofInt cc = v) : EX mid pc ls st h = EX mid (pc + 1) ls (.int v :: st) h := by subst hv; exact e_G hf (by decide) rfl
theorem e_1 (hf : fetch mid pc = some (1, a, b, cc)) (hv : Int32.ofInt cc = v) : EX mid pc ls st h = EX mid (pc + 2) ls (.int v :: st) h := by subst hv; exact e_G hf (by decide) rfl
theorem e_2 (hf : fetch mid pc = some (2, a, b, cc)) (hv : Int32.ofInt cc = v) : EX mid pc ls st h = EX mid (pc + 3) ls (.int v :: st) h := by subst hv; exact e_G hf (by decide) rfl
theorem e_3 (hf : fetch mid pc = some (3, a, b, cc)) (hv : Int32.ofInt cc = v) : EX mid pc ls st h = EX mid (pc + 2) ls (.int v :: st) h := by subst hv; exact e_G hf (by decide) rfl
theorem e_50 (hf : fetch mid pc = some (50, a, b, cc)) (hv : Int32.ofInt cc = v) : EX mid pc ls st h = EX mid (pc + 3) ls (.int v :: st) h := by subst hv; exact e_G hf (by decide) rfl
theorem e_4 {w : Int64} (hf : fetch mid pc = some (4, a, b, cc)) (hv : Int64.ofInt cc = w) : EX mid pc ls st h = EX mid (pc + 3) ls (.long w :: st) h := by subst hv; exact e_G hf (by decide) rfl
theorem e_5 {w : Int64} (hf : fetch mid pc = some (5, a, b, cc)) (hv : Int64.ofNat a = w) : EX mid pc ls st h = EX mid (pc + 1) ls (.long w :: st) h := by subst hv; exact e_G hf (by decide) rfl
theorem e_6 (hf : fetch mid pc = some (6, a, b, cc)) (hl : ls[a]? = some (.int x)) : EX mid pc ls st h = EX mid (pc + 1) ls (.int x :: st) h := e_g (q := (pc + 1, ls, .int x :: st, h)) hf (by decide) (by show lod 1 a pc ls st h = _; unfold lod; rw [hl])
theorem e_7 (hf : fetch mid pc = some (7, a, b, cc)) (hl : ls[a]? = some (.int x)) : EX mid pc ls st h = EX mid (pc + 2) ls (.int x :: st) h := e_g (q := (pc + 2, ls, .int x :: st, h)) hf (by decide) (by show lod 2 a pc ls st h = _; unfold lod; rw [hl])
theorem e_8 {q : Nat} (hf : fetch mid pc = some (8, a, b, cc)) (hl : ls[a]? = some (.ref q)) : EX mid pc ls st h = EX mid (pc + 1) ls (.ref q :: st) h := e_g (q := (pc + 1, ls, .ref q :: st, h)) hf (by decide) (by show loa a pc ls st h = _; unfold loa; rw [hl])
theorem e_9 (hf : fetch mid pc = some (9, a, b, cc)) (hs : ls.set a (.int x) = ls') : EX mid pc ls (.int x :: st) h = EX mid (pc + 1) ls' st h := by subst hs; exact e_G hf (by decide) rfl
theorem e_10 (hf : fetch mid pc = some (10, a, b, cc)) (hs : ls.set a (.int x) = ls') : EX mid pc ls (.int x :: st) h = EX mid (pc + 2) ls' st h := by subst hs; exact e_G hf (by decide) rfl
theorem e_11 {q : Nat} (hf : fetch mid pc = some (11, a, b, cc)) (hs : ls.set a (.ref q) = ls') : EX mid pc ls (.ref q :: st) h = EX mid (pc + 1) ls' st h := by subst hs; exact e_G hf (by decide) rfl
theorem e_12 (hf : fetch mid pc = some (12, a, b, cc)) (hl : ls[a]? = some (.int x)) (hv : Int32.ofInt cc = v) (hs : ls.set a (.int (x + v)) = ls') : EX mid pc ls st h = EX mid (pc + 3) ls' st h := by subst hv; subst hs; exact e_g (q := (pc + 3, ls.set a (.int (x + Int32.ofInt cc)), st, h)) hf (by decide) (by show o_12 a b cc pc ls st h = _; unfold o_12; rw [hl])
theorem e_13 (hf : fetch mid pc = some (13, a, b, cc)) : EX mid pc ls (.int y :: .int x :: st) h = EX mid (pc + 1) ls (.int (x + y) :: st) h := e_G hf (by decide) rfl
theorem e_14 (hf : fetch mid pc = some (14, a, b, cc)) : EX mid pc ls (.int y :: .int x :: st) h = EX mid (pc + 1) ls (.int (x - y) :: st) h := e_G hf (by decide) rfl
theorem e_15 (hf : fetch mid pc = some (15, a, b, cc)) : EX mid pc ls (.int y :: .int x :: st) h = EX mid (pc + 1) ls (.int (x * y) :: st) h := e_G hf (by decide) rfl
theorem e_16 (hf : fetch mid pc = some (16, a, b, cc)) : EX mid pc ls (.int y :: .int x :: st) h = if y = 0 then none else EX mid (pc + 1) ls (.int (x / y) :: st) h := e_d hf (by decide) rfl
theorem e_17 (hf : fetch mid pc = some (17, a, b, cc)) : EX mid pc ls (.int y :: .int x :: st) h = if y = 0 then none else EX mid (pc + 1) ls (.int (x - x / y * y) :: st) h := e_d hf (by decide) rfl
theorem e_18 (hf : fetch mid pc = some (18, a, b, cc)) : EX mid pc ls (.int x :: st) h = EX mid (pc + 1) ls (.int (-x) :: st) h := e_G hf (by decide) rfl
theorem e_19 (hf : fetch mid pc = some (19, a, b, cc)) : EX mid pc ls (.int y :: .int x :: st) h = EX mid (pc + 1) ls (.int (x &&& y) :: st) h := e_G hf (by decide) rfl
theorem e_20 (hf : fetch mid pc = some (20, a, b, cc)) : EX mid pc ls (.int y :: .int x :: st) h = EX mid (pc + 1) ls (.int (x ||| y) :: st) h := e_G hf (by decide) rfl
theorem e_21 (hf : fetch mid pc = some (21, a, b, cc)) : EX mid pc ls (.int y :: .int x :: st) h = EX mid (pc + 1) ls (.int (x <<< (y &&& 31)) :: st) h := e_G hf (by decide) rfl
theorem e_22 (hf : fetch mid pc = some (22, a, b, cc)) : EX mid pc ls (.int y :: .int x :: st) h = EX mid (pc + 1) ls (.int (x >>> (y &&& 31)) :: st) h := e_G hf (by decide) rfl
theorem e_23 (hf : fetch mid pc = some (23, a, b, cc)) : EX mid pc ls (.int y :: .int x :: st) h = EX mid (pc + 1) ls (.int ((x.toUInt32 >>> (y.toUInt32 &&& Int32.toUInt32 31)).toInt32) :: st) h := e_G hf (by decide) rfl
theorem e_24 {z w : Int64} (hf : fetch mid pc = some (24, a, b, cc)) : EX mid pc ls (.long w :: .long z :: st) h = EX mid (pc + 1) ls (.long (z + w) :: st) h := e_G hf (by decide) rfl
theorem e_25 {z w : Int64} (hf : fetch mid pc = some (25, a, b, cc)) : EX mid pc ls (.long w :: .long z :: st) h = EX mid (pc + 1) ls (.int (lg_cmp z w) :: st) h := e_G hf (by decide) rfl
theorem e_26 {v : Value} (hf : fetch mid pc = some (26, a, b, cc)) (h1 : c1 v = true) : EX mid pc ls (v :: st) h = EX mid (pc + 1) ls (v :: v :: st) h := e_g (q := (pc + 1, ls, v :: v :: st, h)) hf (by decide) (by show o_26 a b cc pc ls (v :: st) h = _; unfold o_26; exact if_pos h1)
theorem e_27 {v w : Value} (hf : fetch mid pc = some (27, a, b, cc)) (h1 : c1 v = true ∧ c1 w = true) : EX mid pc ls (v :: w :: st) h = EX mid (pc + 1) ls (v :: w :: v :: w :: st) h := e_g (q := (pc + 1, ls, v :: w :: v :: w :: st, h)) hf (by decide) (by show o_27 a b cc pc ls (v :: w :: st) h = _; unfold o_27; exact if_pos h1)
theorem e_28 {v : Value} (hf : fetch mid pc = some (28, a, b, cc)) (h1 : c1 v = true) : EX mid pc ls (v :: st) h = EX mid (pc + 1) ls st h := e_g (q := (pc + 1, ls, st, h)) hf (by decide) (by show o_28 a b cc pc ls (v :: st) h = _; unfold o_28; exact if_pos h1)
theorem e_29 (hf : fetch mid pc = some (29, a, b, cc)) : EX mid pc ls (.int x :: st) h = if icm a x 0 = true then EX mid b ls st h else EX mid (pc + 3) ls st h := e_if hf (by decide) rfl
theorem e_30 (hf : fetch mid pc = some (30, a, b, cc)) : EX mid pc ls (.int y :: .int x :: st) h = if icm a x y = true then EX mid b ls st h else EX mid (pc + 3) ls st h := e_if hf (by decide) rfl
theorem e_31 (hf : fetch mid pc = some (31, a, b, cc)) : EX mid pc ls st h = EX mid b ls st h := e_G hf (by decide) rfl
theorem e_32 {q : Nat} (hf : fetch mid pc = some (32, a, b, cc)) : EX mid pc ls (.ref q :: st) h = EX mid (pc + 3) ls st h := e_G hf (by decide) rfl
theorem e_33 {q : Nat} (hf : fetch mid pc = some (33, a, b, cc)) : EX mid pc ls (.ref q :: st) h = EX mid b ls st h := e_G hf (by decide) rfl
theorem e_36 {q ci k : Nat} (hf : fetch mid pc = some (36, a, b, cc)) (hb : b / 64 = ci) (hk : b % 64 = k) : EX mid pc ls (.ref q :: st) h = (gF h q ci k).bind fun v => EX mid (pc + 3) ls (v :: st) h := by subst hb; subst hk; exact e_Bv (F := fun v => v) hf (by decide) rfl
theorem e_37 {q ci k : Nat} {v : Value} (hf : fetch mid pc = some (37, a, b, cc)) (hb : b / 64 = ci) (hk : b % 64 = k) : EX mid pc ls (v :: .ref q :: st) h = (pF h q ci k v).bind fun h' => EX mid (pc + 3) ls st h' := by subst hb; subst hk; exact e_Bh hf (by decide) rfl
theorem e_38 {q : Nat} {i : Int32} (hf : fetch mid pc = some (38, a, b, cc)) : EX mid pc ls (.int i :: .ref q :: st) h = (gA h q i).bind fun x => EX mid (pc + 1) ls (.int x :: st) h := e_Bv (F := fun x => .int x) hf (by decide) rfl
theorem e_39 {q : Nat} {i : Int32} (hf : fetch mid pc = some (39, a, b, cc)) : EX mid pc ls (.int x :: .int i :: .ref q :: st) h = (pA h q i x).bind fun h' => EX mid (pc + 1) ls st h' := e_Bh hf (by decide) rfl
theorem e_40 {q : Nat} {i : Int32} (hf : fetch mid pc = some (40, a, b, cc)) : EX mid pc ls (.int i :: .ref q :: st) h = (gZ h q i).bind fun x => EX mid (pc + 1) ls (.int x :: st) h := e_Bv (F := fun x => .int x) hf (by decide) rfl
theorem e_41 {q : Nat} {i : Int32} (hf : fetch mid pc = some (41, a, b, cc)) : EX mid pc ls (.int x :: .int i :: .ref q :: st) h = (pZ h q i x).bind fun h' => EX mid (pc + 1) ls st h' := e_Bh hf (by decide) rfl
theorem e_42 {q : Nat} {i : Int32} (hf : fetch mid pc = some (42, a, b, cc)) : EX mid pc ls (.int i :: .ref q :: st) h = (gQ h q i).bind fun v => EX mid (pc + 1) ls (v :: st) h := e_Bv (F := fun v => v) hf (by decide) rfl
theorem e_43 {q w : Nat} {i : Int32} (hf : fetch mid pc = some (43, a, b, cc)) : EX mid pc ls (.ref w :: .int i :: .ref q :: st) h = (pQ h q i w).bind fun h' => EX mid (pc + 1) ls st h' := e_Bh hf (by decide) rfl
theorem e_44 {q : Nat} (hf : fetch mid pc = some (44, a, b, cc)) : EX mid pc ls (.ref q :: st) h = (gL h q).bind fun x => EX mid (pc + 1) ls (.int x :: st) h := e_Bv (F := fun x => .int x) hf (by decide) rfl
theorem e_48 {q : Nat} (hf : fetch mid pc = some (48, a, b, cc)) (hw : wt st ≤ 8) : EX mid pc ls (.ref q :: st) h = EX mid (pc + 3) ls st h := e_g (q := (pc + 3, ls, st, h)) hf (by decide) (by show o_48 a b cc pc ls (.ref q :: st) h = _; unfold o_48; exact if_pos hw)
theorem e_49a (hf : fetch mid pc = some (49, a, 0, cc)) (hw : wt st ≤ 8) : EX mid pc ls (.int x :: st) h = EX mid (pc + 3) ls (.int (if 0 ≤ x then x else 0 - x) :: st) h := e_g (q := (pc + 3, ls, .int (if 0 ≤ x then x else 0 - x) :: st, h)) hf (by decide) (by show o_49 a 0 cc pc ls (.int x :: st) h = _; unfold o_49; exact if_pos hw)
theorem e_49b (hf : fetch mid pc = some (49, a, 1, cc)) (hw : wt st ≤ 8) : EX mid pc ls (.int y :: .int x :: st) h = EX mid (pc + 3) ls (.int (if x < y then y else x) :: st) h := e_g (q := (pc + 3, ls, .int (if x < y then y else x) :: st, h)) hf (by decide) (by show o_49 a 1 cc pc ls (.int y :: .int x :: st) h = _; unfold o_49; exact if_pos hw)
theorem e_49c (hf : fetch mid pc = some (49, a, 2, cc)) (hw : wt st ≤ 8) : EX mid pc ls (.int y :: .int x :: st) h = EX mid (pc + 3) ls (.int (if y < x then y else x) :: st) h := e_g (q := (pc + 3, ls, .int (if y < x then y else x) :: st, h)) hf (by decide) (by show o_49 a 2 cc pc ls (.int y :: .int x :: st) h = _; unfold o_49; exact if_pos hw)
theorem e_45 {n : Int32} (hf : fetch mid pc = some (45, a, b, cc)) (hn : ¬ (n < 0 ∨ 1000 < n.toNatClampNeg)) : EX mid pc ls (.int n :: st) h = EX mid (pc + 2) ls (.ref h.length :: st) (h ++ [.inr (.inl (a, n.toNatClampNeg, fun _ => 0))]) := e_g (q := (pc + 2, ls, .ref h.length :: st, h ++ [.inr (.inl (a, n.toNatClampNeg, fun _ => 0))])) hf (by decide) (by show o_45 a b cc pc ls (.int n :: st) h = _; unfold o_45; exact if_neg hn)
theorem e_46 {n : Int32} (hf : fetch mid pc = some (46, a, b, cc)) (hn : ¬ (n < 0 ∨ 1000 < n.toNatClampNeg)) : EX mid pc ls (.int n :: st) h = EX mid (pc + 3) ls (.ref h.length :: st) (h ++ [.inr (.inr (n.toNatClampNeg, fun _ => none))]) := e_g (q := (pc + 3, ls, .ref h.length :: st, h ++ [.inr (.inr (n.toNatClampNeg, fun _ => none))])) hf (by decide) (by show o_46 a b cc pc ls (.int n :: st) h = _; unfold o_46; exact if_neg hn)
theorem e_47 (hf : fetch mid pc = some (47, a, b, cc)) : EX mid pc ls st h = EX mid (pc + 3) ls (.ref h.length :: st) (h ++ [.inl (b, dfl b)]) := e_G hf (by decide) rfl
end EQ
-- constants
theorem ci_m1000000 : Int32.ofInt (-1000000) = (-1000000) := by decide
theorem ci_m10 : Int32.ofInt (-10) = (-10) := by decide
theorem ci_m9 : Int32.ofInt (-9) = (-9) := by decide
theorem ci_m3 : Int32.ofInt (-3) = (-3) := by decide
theorem ci_m2 : Int32.ofInt (-2) = (-2) := by decide
theorem ci_m1 : Int32.ofInt (-1) = (-1) := by decide
theorem ci_0 : Int32.ofInt 0 = 0 := by decide
theorem ci_1 : Int32.ofInt 1 = 1 := by decide
theorem ci_2 : Int32.ofInt 2 = 2 := by decide
theorem ci_3 : Int32.ofInt 3 = 3 := by decide
theorem ci_4 : Int32.ofInt 4 = 4 := by decide
theorem ci_5 : Int32.ofInt 5 = 5 := by decide
theorem ci_6 : Int32.ofInt 6 = 6 := by decide
theorem ci_7 : Int32.ofInt 7 = 7 := by decide
theorem ci_8 : Int32.ofInt 8 = 8 := by decide
theorem ci_9 : Int32.ofInt 9 = 9 := by decide
theorem ci_10 : Int32.ofInt 10 = 10 := by decide
theorem ci_11 : Int32.ofInt 11 = 11 := by decide
theorem ci_12 : Int32.ofInt 12 = 12 := by decide
theorem ci_13 : Int32.ofInt 13 = 13 := by decide
theorem ci_14 : Int32.ofInt 14 = 14 := by decide
theorem ci_16 : Int32.ofInt 16 = 16 := by decide
theorem ci_20 : Int32.ofInt 20 = 20 := by decide
theorem ci_24 : Int32.ofInt 24 = 24 := by decide
theorem ci_28 : Int32.ofInt 28 = 28 := by decide
theorem ci_30 : Int32.ofInt 30 = 30 := by decide
theorem ci_31 : Int32.ofInt 31 = 31 := by decide
theorem ci_32 : Int32.ofInt 32 = 32 := by decide
theorem ci_48 : Int32.ofInt 48 = 48 := by decide
theorem ci_57 : Int32.ofInt 57 = 57 := by decide
theorem ci_59 : Int32.ofInt 59 = 59 := by decide
theorem ci_63 : Int32.ofInt 63 = 63 := by decide
theorem ci_99 : Int32.ofInt 99 = 99 := by decide
theorem ci_100 : Int32.ofInt 100 = 100 := by decide
theorem ci_102 : Int32.ofInt 102 = 102 := by decide
theorem ci_108 : Int32.ofInt 108 = 108 := by decide
theorem ci_119 : Int32.ofInt 119 = 119 := by decide
theorem ci_120 : Int32.ofInt 120 = 120 := by decide
theorem ci_149 : Int32.ofInt 149 = 149 := by decide
theorem ci_150 : Int32.ofInt 150 = 150 := by decide
theorem ci_255 : Int32.ofInt 255 = 255 := by decide
theorem ci_999 : Int32.ofInt 999 = 999 := by decide
theorem ci_1000000 : Int32.ofInt 1000000 = 1000000 := by decide
theorem ci_252645135 : Int32.ofInt 252645135 = 252645135 := by decide
theorem ci_858993459 : Int32.ofInt 858993459 = 858993459 := by decide
theorem ci_1431655765 : Int32.ofInt 1431655765 = 1431655765 := by decide
theorem cl_10 : Int64.ofInt 10 = 10 := by decide
theorem cl_11 : Int64.ofInt 11 = 11 := by decide
theorem cl_100 : Int64.ofInt 100 = 100 := by decide
theorem cl_101 : Int64.ofInt 101 = 101 := by decide
theorem cl_1000 : Int64.ofInt 1000 = 1000 := by decide
theorem cl_1011 : Int64.ofInt 1011 = 1011 := by decide
theorem cl_10000 : Int64.ofInt 10000 = 10000 := by decide
theorem cl_10101 : Int64.ofInt 10101 = 10101 := by decide
theorem cl_100000 : Int64.ofInt 100000 = 100000 := by decide
theorem cl_100001 : Int64.ofInt 100001 = 100001 := by decide
