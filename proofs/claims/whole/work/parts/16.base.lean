/-! plain facts for the walks -/
def bI (p : Prop) [Decidable p] : Int32 := if p then 1 else 0
theorem bI_t {p : Prop} [Decidable p] (h : p) : bI p = 1 := if_pos h
theorem bI_f {p : Prop} [Decidable p] (h : ¬ p) : bI p = 0 := if_neg h
theorem bI_0 {p : Prop} [Decidable p] : (bI p = 0) = ¬ p := by
  by_cases h : p
  · rw [bI_t h]; simp [h]
  · rw [bI_f h]; simp [h]
theorem bI_1 {p : Prop} [Decidable p] : (bI p = 1) = p := by
  by_cases h : p
  · rw [bI_t h]; simp [h]
  · rw [bI_f h]; simp [h]
theorem bI_z {p : Prop} [Decidable p] : bI p &&& 1 = bI p := by
  by_cases h : p
  · rw [bI_t h]; rfl
  · rw [bI_f h]; rfl
theorem z00 : ((0 : Int32) &&& 1 = 0) = True := by decide
theorem z11 : ((1 : Int32) &&& 1 = 1) = True := by decide
/-- two ends with the same heap -/
theorem pl_i {p : Prop} [Decidable p] {h : List Cel} {a b : Int32} : (if p then some (h, some (Value.int a)) else some (h, some (Value.int b)) : Option Res) = some (h, some (.int (if p then a else b))) := by
  split <;> rfl
theorem if_bI {p : Prop} [Decidable p] : (if p then (1 : Int32) else 0) = bI p := rfl
theorem if_bN {p : Prop} [Decidable p] : (if p then (0 : Int32) else 1) = bI (¬ p) := by
  unfold bI
  by_cases h : p <;> simp [h]
abbrev inB (x y z : Int32) : Prop := y ≤ x ∧ x ≤ z
theorem vB_n {j n : Nat} (h : j < n) (hn : n < 2 ^ 31) : vB (nI j) n = true := by
  unfold vB
  have h1 : ¬ nI j < 0 := nI_pos (by omega)
  rw [nI_clamp (by omega)]
  simp [h1]
  omega
theorem vB_0 {n : Nat} (h : 0 < n) : vB 0 n = true := by
  unfold vB
  simp
  omega
theorem nI_o (n : Nat) : (OfNat.ofNat n : Int32) = nI n := rfl
theorem vB_o {j n : Nat} (h : j < n) (hn : n < 2 ^ 31) : vB (OfNat.ofNat j : Int32) n = true := vB_n h hn
theorem tc_o {j : Nat} (h : j < 2 ^ 31) : (OfNat.ofNat j : Int32).toNatClampNeg = j := nI_clamp h
theorem tc_0 : (0 : Int32).toNatClampNeg = 0 := rfl
theorem bd_s {α β : Type} {a : α} {f : α → Option β} : (some a).bind f = f a := rfl
theorem bd_n {α β : Type} {f : α → Option β} : (none : Option α).bind f = none := rfl
theorem it_t {α : Type} {p : Prop} [Decidable p] {a b : α} (h : p) : (if p then a else b) = a := if_pos h
theorem tc_1 : (1 : Int32).toNatClampNeg = 1 := rfl
theorem tc_2 : (2 : Int32).toNatClampNeg = 2 := rfl
theorem tc_3 : (3 : Int32).toNatClampNeg = 3 := rfl
theorem tc_4 : (4 : Int32).toNatClampNeg = 4 := rfl
theorem tc_5 : (5 : Int32).toNatClampNeg = 5 := rfl
theorem tc_6 : (6 : Int32).toNatClampNeg = 6 := rfl
theorem tc_7 : (7 : Int32).toNatClampNeg = 7 := rfl
theorem tc_8 : (8 : Int32).toNatClampNeg = 8 := rfl
theorem tc_9 : (9 : Int32).toNatClampNeg = 9 := rfl
theorem tc_10 : (10 : Int32).toNatClampNeg = 10 := rfl
theorem tc_11 : (11 : Int32).toNatClampNeg = 11 := rfl
theorem tc_12 : (12 : Int32).toNatClampNeg = 12 := rfl
theorem tc_13 : (13 : Int32).toNatClampNeg = 13 := rfl
theorem tc_14 : (14 : Int32).toNatClampNeg = 14 := rfl
theorem vB_i {x : Int32} {n : Nat} (h : inB x 0 (nI n)) (hn : n + 1 < 2 ^ 31) : vB x (n + 1) = true := by
  obtain ⟨j, hj, rfl⟩ := nI_of (fun z => Int32.not_le.mpr z h.1)
  have h2 : j ≤ n := (nI_leI hj (by omega)).mp h.2
  exact vB_n (by omega) hn
theorem vB_1 {x : Int32} (h : inB x 0 1) : vB x 2 = true := vB_i (n := 1) h (by decide)
theorem vB_2 {x : Int32} (h : inB x 0 2) : vB x 3 = true := vB_i (n := 2) h (by decide)
theorem vB_3 {x : Int32} (h : inB x 0 3) : vB x 4 = true := vB_i (n := 3) h (by decide)
theorem vB_5 {x : Int32} (h : inB x 0 5) : vB x 6 = true := vB_i (n := 5) h (by decide)
theorem vB_9 {x : Int32} (h : inB x 0 9) : vB x 10 = true := vB_i (n := 9) h (by decide)
theorem vB_13 {x : Int32} (h : inB x 0 13) : vB x 14 = true := vB_i (n := 13) h (by decide)
theorem vB_99 {x : Int32} (h : inB x 0 99) : vB x 100 = true := vB_i (n := 99) h (by decide)
theorem vB_149 {x : Int32} (h : inB x 0 149) : vB x 150 = true := vB_i (n := 149) h (by decide)
/-- what takeFresh leaves of n, age by age -/
def mnI (a b : Int32) : Int32 := if b < a then b else a
def tf2 (f : Nat → Int32) (n : Int32) : Int32 := n - mnI n (f 2)
def tf1 (f : Nat → Int32) (n : Int32) : Int32 := tf2 f n - mnI (tf2 f n) (f 1)
def tf0 (f : Nat → Int32) (n : Int32) : Int32 := tf1 f n - mnI (tf1 f n) (f 0)
def tfF (f : Nat → Int32) (n : Int32) : Nat → Int32 := upd (upd (upd f 2 (f 2 - mnI n (f 2))) 1 (f 1 - mnI (tf2 f n) (f 1))) 0 (f 0 - mnI (tf1 f n) (f 0))
/-- a barn after a night: its fields, its fresh pounds -/
def slI (f g : Nat → Int32) : Nat → Int32 := upd (upd (upd (upd (upd (upd f 3 (f 3 + f 2 / 2)) 2 0) 1 0) 6 (f 6 + g 2)) 4 0) 0 (f 0 + 1)
def slF (g : Nat → Int32) : Nat → Int32 := upd (upd (upd g 2 (g 1)) 1 (g 0)) 0 0
def emI (f : Nat → Int32) : Nat → Int32 := upd (upd (upd (upd (upd (upd (upd (upd (upd f 0 0) 1 0) 2 0) 3 0) 4 0) 5 0) 6 0) 7 0) 8 0
def emF (g : Nat → Int32) : Nat → Int32 := upd (upd (upd g 0 0) 1 0) 2 0
/-- a copied barn -/
def cpI (f t : Nat → Int32) : Nat → Int32 := upd (upd (upd (upd (upd (upd (upd (upd (upd t 0 (f 0)) 1 (f 1)) 2 (f 2)) 3 (f 3)) 4 (f 4)) 5 (f 5)) 6 (f 6)) 7 (f 7)) 8 (f 8)
def cpF (f t : Nat → Int32) : Nat → Int32 := upd (upd (upd t 0 (f 0)) 1 (f 1)) 2 (f 2)
theorem bI_a {p q : Prop} [Decidable p] [Decidable q] : (if p then bI q else 0) = bI (p ∧ q) := by
  by_cases h : p
  · simp [h]
  · rw [if_neg h, bI_f (fun z => h z.1)]
def mxI (a b : Int32) : Int32 := if a < b then b else a
/-- STROKES -/
def stk (p : Prop) [Decidable p] (w q : Int32) : Int32 := 10 + 3 * (if 0 ≤ (if p then w else 5) - 5 then (if p then w else 5) - 5 else 0 - ((if p then w else 5) - 5)) + (if q = 0 then 0 else 10)
/-- a letter of THE TEXT -/
def ltA (n : Int32) (f : Nat → Int32) (k : Int32) : Int32 := if inB k 0 149 ∧ k < n then f k.toNatClampNeg else 0
theorem va_swap {α : Type} {f : Nat → α} {a b : Nat} {x y : α} (h : a ≠ b) : va_up (va_up f a x) b y = va_up (va_up f b y) a x := by
  funext j
  unfold va_up
  by_cases h1 : j = b
  · subst h1
    rw [if_pos rfl, if_neg (Ne.symm h), if_pos rfl]
  · rw [if_neg h1]
    by_cases h2 : j = a
    · rw [if_pos h2, if_pos h2]
    · rw [if_neg h2, if_neg h2, if_neg h1]
