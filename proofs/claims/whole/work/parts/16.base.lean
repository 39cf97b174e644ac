/-! plain facts for the walks -/
def bI (p : Prop) [Decidable p] : Int32 := if p then 1 else 0
theorem bI_t {p : Prop} [Decidable p] (h : p) : bI p = 1 := if_pos h
theorem bI_f {p : Prop} [Decidable p] (h : ¬ p) : bI p = 0 := if_neg h
theorem bI_0 {p : Prop} [Decidable p] : (bI p = 0) = ¬ p := by
  by_cases h : p
  · rw [bI_t h]; simp [h]
  · rw [bI_f h]; simp [h]
theorem bI_1 {p : Prop} [Decidable p] : (bI p = 1) = p := by
  by_cases h : p
  · rw [bI_t h]; simp [h]
  · rw [bI_f h]; simp [h]
theorem bI_z {p : Prop} [Decidable p] : bI p &&& 1 = bI p := by
  by_cases h : p
  · rw [bI_t h]; rfl
  · rw [bI_f h]; rfl
theorem z00 : ((0 : Int32) &&& 1 = 0) = True := by decide
theorem z11 : ((1 : Int32) &&& 1 = 1) = True := by decide
/-- two ends with the same heap -/
theorem pl_i {p : Prop} [Decidable p] {h : List Cel} {a b : Int32} : (if p then some (h, some (Value.int a)) else some (h, some (Value.int b)) : Option Res) = some (h, some (.int (if p then a else b))) := by
  split <;> rfl
theorem if_bI {p : Prop} [Decidable p] : (if p then (1 : Int32) else 0) = bI p := rfl
theorem if_bN {p : Prop} [Decidable p] : (if p then (0 : Int32) else 1) = bI (¬ p) := by
  unfold bI
  by_cases h : p <;> simp [h]
abbrev inB (x y z : Int32) : Prop := y ≤ x ∧ x ≤ z
theorem vB_n {j n : Nat} (h : j < n) (hn : n < 2 ^ 31) : vB (nI j) n = true := by
  unfold vB
  have h1 : ¬ nI j < 0 := nI_pos (by omega)
  rw [nI_clamp (by omega)]
  simp [h1]
  omega
theorem vB_0 {n : Nat} (h : 0 < n) : vB 0 n = true := by
  unfold vB
  simp
  omega
theorem nI_o (n : Nat) : (OfNat.ofNat n : Int32) = nI n := rfl
theorem vB_o {j n : Nat} (h : j < n) (hn : n < 2 ^ 31) : vB (OfNat.ofNat j : Int32) n = true := vB_n h hn
theorem tc_o {j : Nat} (h : j < 2 ^ 31) : (OfNat.ofNat j : Int32).toNatClampNeg = j := nI_clamp h
theorem tc_0 : (0 : Int32).toNatClampNeg = 0 := rfl
theorem bd_s {α β : Type} {a : α} {f : α → Option β} : (some a).bind f = f a := rfl
theorem bd_n {α β : Type} {f : α → Option β} : (none : Option α).bind f = none := rfl
theorem it_t {α : Type} {p : Prop} [Decidable p] {a b : α} (h : p) : (if p then a else b) = a := if_pos h
theorem tc_1 : (1 : Int32).toNatClampNeg = 1 := rfl
theorem tc_2 : (2 : Int32).toNatClampNeg = 2 := rfl
theorem tc_3 : (3 : Int32).toNatClampNeg = 3 := rfl
theorem tc_4 : (4 : Int32).toNatClampNeg = 4 := rfl
theorem tc_5 : (5 : Int32).toNatClampNeg = 5 := rfl
theorem tc_6 : (6 : Int32).toNatClampNeg = 6 := rfl
theorem tc_7 : (7 : Int32).toNatClampNeg = 7 := rfl
theorem tc_8 : (8 : Int32).toNatClampNeg = 8 := rfl
theorem tc_9 : (9 : Int32).toNatClampNeg = 9 := rfl
theorem tc_10 : (10 : Int32).toNatClampNeg = 10 := rfl
theorem tc_11 : (11 : Int32).toNatClampNeg = 11 := rfl
theorem tc_12 : (12 : Int32).toNatClampNeg = 12 := rfl
theorem tc_13 : (13 : Int32).toNatClampNeg = 13 := rfl
theorem tc_14 : (14 : Int32).toNatClampNeg = 14 := rfl
theorem vB_i {x : Int32} {n : Nat} (h : inB x 0 (nI n)) (hn : n + 1 < 2 ^ 31) : vB x (n + 1) = true := by
  obtain ⟨j, hj, rfl⟩ := nI_of (fun z => Int32.not_le.mpr z h.1)
  have h2 : j ≤ n := (nI_leI hj (by omega)).mp h.2
  exact vB_n (by omega) hn
theorem vB_1 {x : Int32} (h : inB x 0 1) : vB x 2 = true := vB_i (n := 1) h (by decide)
theorem vB_2 {x : Int32} (h : inB x 0 2) : vB x 3 = true := vB_i (n := 2) h (by decide)
theorem vB_3 {x : Int32} (h : inB x 0 3) : vB x 4 = true := vB_i (n := 3) h (by decide)
theorem vB_5 {x : Int32} (h : inB x 0 5) : vB x 6 = true := vB_i (n := 5) h (by decide)
theorem vB_9 {x : Int32} (h : inB x 0 9) : vB x 10 = true := vB_i (n := 9) h (by decide)
theorem vB_13 {x : Int32} (h : inB x 0 13) : vB x 14 = true := vB_i (n := 13) h (by decide)
theorem vB_99 {x : Int32} (h : inB x 0 99) : vB x 100 = true := vB_i (n := 99) h (by decide)
theorem vB_149 {x : Int32} (h : inB x 0 149) : vB x 150 = true := vB_i (n := 149) h (by decide)
/-- what takeFresh leaves of n, age by age -/
def mnI (a b : Int32) : Int32 := if b < a then b else a
def tf2 (f : Nat → Int32) (n : Int32) : Int32 := n - mnI n (f 2)
def tf1 (f : Nat → Int32) (n : Int32) : Int32 := tf2 f n - mnI (tf2 f n) (f 1)
def tf0 (f : Nat → Int32) (n : Int32) : Int32 := tf1 f n - mnI (tf1 f n) (f 0)
def tfF (f : Nat → Int32) (n : Int32) : Nat → Int32 := upd (upd (upd f 2 (f 2 - mnI n (f 2))) 1 (f 1 - mnI (tf2 f n) (f 1))) 0 (f 0 - mnI (tf1 f n) (f 0))
/-- a barn after a night: its fields, its fresh pounds -/
def slI (f g : Nat → Int32) : Nat → Int32 := upd (upd (upd (upd (upd (upd f 3 (f 3 + f 2 / 2)) 2 0) 1 0) 6 (f 6 + g 2)) 4 0) 0 (f 0 + 1)
def slF (g : Nat → Int32) : Nat → Int32 := upd (upd (upd g 2 (g 1)) 1 (g 0)) 0 0
def emI (f : Nat → Int32) : Nat → Int32 := upd (upd (upd (upd (upd (upd (upd (upd (upd f 0 0) 1 0) 2 0) 3 0) 4 0) 5 0) 6 0) 7 0) 8 0
def emF (g : Nat → Int32) : Nat → Int32 := upd (upd (upd g 0 0) 1 0) 2 0
/-- a copied barn -/
def cpI (f t : Nat → Int32) : Nat → Int32 := upd (upd (upd (upd (upd (upd (upd (upd (upd t 0 (f 0)) 1 (f 1)) 2 (f 2)) 3 (f 3)) 4 (f 4)) 5 (f 5)) 6 (f 6)) 7 (f 7)) 8 (f 8)
def cpF (f t : Nat → Int32) : Nat → Int32 := upd (upd (upd t 0 (f 0)) 1 (f 1)) 2 (f 2)
theorem bI_a {p q : Prop} [Decidable p] [Decidable q] : (if p then bI q else 0) = bI (p ∧ q) := by
  by_cases h : p
  · simp [h]
  · rw [if_neg h, bI_f (fun z => h z.1)]
def mxI (a b : Int32) : Int32 := if a < b then b else a
/-- STROKES -/
def stk (p : Prop) [Decidable p] (w q : Int32) : Int32 := 10 + 3 * (if 0 ≤ (if p then w else 5) - 5 then (if p then w else 5) - 5 else 0 - ((if p then w else 5) - 5)) + (if q = 0 then 0 else 10)
/-- a letter of THE TEXT -/
def ltA (n : Int32) (f : Nat → Int32) (k : Int32) : Int32 := if inB k 0 149 ∧ k < n then f k.toNatClampNeg else 0
theorem va_swap {α : Type} {f : Nat → α} {a b : Nat} {x y : α} (h : a ≠ b) : va_up (va_up f a x) b y = va_up (va_up f b y) a x := by
  funext j
  unfold va_up
  by_cases h1 : j = b
  · subst h1
    rw [if_pos rfl, if_neg (Ne.symm h), if_pos rfl]
  · rw [if_neg h1]
    by_cases h2 : j = a
    · rw [if_pos h2, if_pos h2]
    · rw [if_neg h2, if_neg h2, if_neg h1]
/-- the fields, the rows behind remember -/
def rbI (I : Nat → Nat → Int32) (x k : Nat) : Nat → Nat → Int32 := va_up (va_up I (23 + 2 * x) (cpI (I 19) (I (23 + 2 * x)))) 21 (upd (upd (I 21) 1 (nI ((x + 1) % 10))) 0 (nI (min (k + 1) 10)))
def rbF (F : Nat → Nat → Int32) (x : Nat) : Nat → Nat → Int32 := va_up F (24 + 2 * x) (cpF (F 20) (F (24 + 2 * x)))
theorem Tk_5 (u : Bool) : Tk u = 5 ∨ Tk u = 12 := by cases u <;> simp [Tk]
theorem rbI_n {I : Nat → Nat → Int32} {x k a : Nat} (h1 : a ≠ 23 + 2 * x) (h2 : a ≠ 21) : rbI I x k a = I a := by
  unfold rbI
  rw [up_n h2, up_n h1]
theorem rbF_n {F : Nat → Nat → Int32} {x a : Nat} (h1 : a ≠ 24 + 2 * x) : rbF F x a = F a := by
  unfold rbF
  rw [up_n h1]
theorem rbI_19 {I : Nat → Nat → Int32} {x k : Nat} : rbI I x k 19 = I 19 := rbI_n (by omega) (by decide)
theorem rbI_T {I : Nat → Nat → Int32} {x k : Nat} {u : Bool} : rbI I x k (Tk u) = I (Tk u) := by
  rcases Tk_5 u with h | h <;> (rw [h]; exact rbI_n (by omega) (by decide))
theorem rbF_20 {F : Nat → Nat → Int32} {x : Nat} : rbF F x 20 = F 20 := rbF_n (by omega)
theorem rbF_T {F : Nat → Nat → Int32} {x j : Nat} {u : Bool} (h : j < 7) : rbF F x (Tk u + j) = F (Tk u + j) := by
  rcases Tk_5 u with e | e <;> (rw [e]; exact rbF_n (by omega))
theorem rbF_T1 {F : Nat → Nat → Int32} {x : Nat} {u : Bool} : rbF F x (Tk u + 1) = F (Tk u + 1) := rbF_T (by decide)
theorem rbF_T2 {F : Nat → Nat → Int32} {x : Nat} {u : Bool} : rbF F x (Tk u + 2) = F (Tk u + 2) := rbF_T (by decide)
theorem rbF_T4 {F : Nat → Nat → Int32} {x : Nat} {u : Bool} : rbF F x (Tk u + 4) = F (Tk u + 4) := rbF_T (by decide)
theorem Tk_19 {u : Bool} : (Tk u = 19) = False := by rcases Tk_5 u with h | h <;> simp [h]
theorem Tk_21 {u : Bool} : (Tk u = 21) = False := by rcases Tk_5 u with h | h <;> simp [h]
theorem Tk_2 {u : Bool} : (Tk u = 2) = False := by rcases Tk_5 u with h | h <;> simp [h]
theorem Tk_20 {u : Bool} {j : Nat} (h : j < 7) : (Tk u + j = 20) = False := by rcases Tk_5 u with e | e <;> simp [e] <;> omega
theorem m31_0 : (0 : Int32) &&& 31 = 0 := by decide
theorem m31_1 : (1 : Int32) &&& 31 = 1 := by decide
theorem m31_2 : (2 : Int32) &&& 31 = 2 := by decide
theorem m31_3 : (3 : Int32) &&& 31 = 3 := by decide
theorem m31_4 : (4 : Int32) &&& 31 = 4 := by decide
theorem m31_5 : (5 : Int32) &&& 31 = 5 := by decide
theorem m31_6 : (6 : Int32) &&& 31 = 6 := by decide
theorem m31_7 : (7 : Int32) &&& 31 = 7 := by decide
theorem m31_8 : (8 : Int32) &&& 31 = 8 := by decide
theorem m31_9 : (9 : Int32) &&& 31 = 9 := by decide
theorem m31_10 : (10 : Int32) &&& 31 = 10 := by decide
theorem m31_11 : (11 : Int32) &&& 31 = 11 := by decide
theorem m31_12 : (12 : Int32) &&& 31 = 12 := by decide
theorem m31_13 : (13 : Int32) &&& 31 = 13 := by decide
theorem mnI_c {a b : Int32} : (if a < b then a else b) = mnI a b := by
  unfold mnI
  by_cases h : a < b
  · rw [if_pos h, if_neg (fun z => Int32.lt_irrefl (Int32.lt_trans h z))]
  · rw [if_neg h]
    by_cases h2 : b < a
    · rw [if_pos h2]
    · rw [if_neg h2]
      exact Int32.le_antisymm (Int32.not_lt.mp h) (Int32.not_lt.mp h2)
theorem lt_n {i n : Nat} (h : i < n) (hn : n < 2 ^ 31) : nI i < nI n := (nI_ltI (by omega) hn).mpr h
theorem nl_n {i n : Nat} (h : n ≤ i) (hi : i < 2 ^ 31) : ¬ nI i < nI n := fun z => Nat.not_lt.mpr h ((nI_ltI hi (by omega)).mp z)
theorem ad_n (i k : Nat) : nI i + nI k = nI (i + k) := nI_add i k
/-- a row whose first i places were moved down by 12 -/
def shN (U : Nat → Int32) (i : Nat) : Nat → Int32 := fun j => if j < i then U (j + 12) else U j
theorem shN_0 {U : Nat → Int32} : shN U 0 = U := by funext j; simp [shN]
theorem shN_s {U : Nat → Int32} {i : Nat} : upd (shN U i) i (shN U i (i + 12)) = shN U (i + 1) := by
  funext j
  unfold upd shN
  by_cases h : j = i
  · subst h
    rw [if_pos rfl, if_neg (by omega), if_pos (by omega)]
  · by_cases h2 : j < i
    · rw [if_neg h, if_pos h2, if_pos (by omega)]
    · rw [if_neg h, if_neg h2, if_neg (by omega)]
/-- n places from p on are s's from b on -/
def stN (U s : Nat → Int32) (p b n : Nat) : Nat → Int32 := fun j => if p ≤ j ∧ j < p + n then s (b + (j - p)) else U j
theorem stN_0 {U s : Nat → Int32} {p b : Nat} : stN U s p b 0 = U := by
  funext j
  unfold stN
  rw [if_neg (by omega)]
theorem stN_s {U s : Nat → Int32} {p b n : Nat} : upd (stN U s p b n) (p + n) (s (b + n)) = stN U s p b (n + 1) := by
  funext j
  unfold upd stN
  by_cases h : j = p + n
  · subst h
    rw [if_pos rfl, if_pos (by omega)]
    congr 1
    omega
  · by_cases h2 : p ≤ j ∧ j < p + n
    · rw [if_neg h, if_pos h2, if_pos (by omega)]
    · rw [if_neg h, if_neg h2, if_neg (by omega)]
theorem stN_in {U s : Nat → Int32} {p b n i : Nat} (h : i < n) : stN U s p b n (p + i) = s (b + i) := by
  unfold stN
  rw [if_pos (by omega)]
  congr 1
  omega
theorem stN_out {U s : Nat → Int32} {p b n j : Nat} (h : j < p ∨ p + n ≤ j) : stN U s p b n j = U j := by
  unfold stN
  rw [if_neg (by omega)]
theorem up_id {α : Type} {f : Nat → α} {k : Nat} : va_up f k (f k) = f := by
  funext j
  unfold va_up
  by_cases h : j = k
  · rw [if_pos h, h]
  · rw [if_neg h]
theorem upd_id {f : Nat → Int32} {k : Nat} : upd f k (f k) = f := by
  funext j
  unfold upd
  by_cases h : j = k
  · rw [if_pos h, h]
  · rw [if_neg h]
theorem upd2 {f : Nat → Int32} {k : Nat} {x y : Int32} : upd (upd f k x) k y = upd f k y := by
  funext j
  unfold upd
  by_cases h : j = k
  · rw [if_pos h, if_pos h]
  · rw [if_neg h, if_neg h, if_neg h]
/-- Integer.bitCount, step by step -/
def bc1 (n : Int32) : Int32 := n - ((n.toUInt32 >>> (Int32.toUInt32 1 &&& Int32.toUInt32 31)).toInt32 &&& 1431655765)
def bc2 (n : Int32) : Int32 := (n &&& 858993459) + ((n.toUInt32 >>> (Int32.toUInt32 2 &&& Int32.toUInt32 31)).toInt32 &&& 858993459)
def bc3 (n : Int32) : Int32 := (n + (n.toUInt32 >>> (Int32.toUInt32 4 &&& Int32.toUInt32 31)).toInt32) &&& 252645135
def bc4 (n : Int32) : Int32 := n + (n.toUInt32 >>> (Int32.toUInt32 8 &&& Int32.toUInt32 31)).toInt32
def bc5 (n : Int32) : Int32 := (n + (n.toUInt32 >>> (Int32.toUInt32 16 &&& Int32.toUInt32 31)).toInt32) &&& 63
def bcI (n : Int32) : Int32 := bc5 (bc4 (bc3 (bc2 (bc1 n))))
def onI (n : Int32) : Int32 := 0 + (n >>> (0 : Int32) &&& 1) + (n >>> (1 : Int32) &&& 1) + (n >>> (2 : Int32) &&& 1) + (n >>> (3 : Int32) &&& 1) + (n >>> (4 : Int32) &&& 1) + (n >>> (5 : Int32) &&& 1)
theorem bc_on : ∀ c, c < 64 → bcI (nI c) = onI (nI c) := by decide +kernel
theorem on_le : ∀ c, c < 64 → 0 ≤ onI (nI c) ∧ onI (nI c) ≤ 6 := by decide +kernel
/-- does what was tasted fit these cheats -/
def cbB (a b : Nat → Int32) (c : Int32) : Nat → Bool
  | 0 => true
  | n + 1 => cbB a b c n && (decide (c &&& a n = 0) == decide (¬ b n = 1))
theorem cbB_le {a b : Nat → Int32} {c : Int32} {n k : Nat} (h : cbB a b c (n + k) = true) : cbB a b c n = true := by
  induction k with
  | zero => exact h
  | succ k ih =>
    rw [← Nat.add_assoc, cbB, Bool.and_eq_true] at h
    exact ih h.1
theorem cbB_f {a b : Nat → Int32} {c : Int32} {n m : Nat} (h : cbB a b c n = false) (hm : n ≤ m) : cbB a b c m = false := by
  cases e : cbB a b c m with
  | false => rfl
  | true =>
    obtain ⟨k, rfl⟩ : ∃ k, m = n + k := ⟨m - n, by omega⟩
    rw [cbB_le e] at h
    cases h
/-- sums, joint cheats, least number -/
def cnI (p : Nat → Bool) : Nat → Int32
  | 0 => 0
  | n + 1 => if p n = true then cnI p n + 1 else cnI p n
def alA (p : Nat → Bool) : Nat → Int32
  | 0 => -9
  | n + 1 => if p n = true then (if alA p n = -9 then nI n else alA p n &&& nI n) else alA p n
def alM (D : Int32) (p : Nat → Bool) : Nat → Int32
  | 0 => D
  | n + 1 => if p n = true then alM D p n &&& nI n else alM D p n
def fwA (p : Nat → Bool) : Nat → Int32
  | 0 => -9
  | n + 1 => if p n = true then (if fwA p n = -9 then bcI (nI n) else if bcI (nI n) < fwA p n then bcI (nI n) else fwA p n) else fwA p n
def fwM (p : Nat → Bool) : Nat → Int32
  | 0 => 1000000
  | n + 1 => if p n = true then (if onI (nI n) < fwM p n then onI (nI n) else fwM p n) else fwM p n
/-- the greater part, by a set -/
def grI (p : Nat → Bool) (all : Int32) (N s : Nat) : Int32 := mxI (cnI (fun c => (!decide (nI c &&& nI s = 0)) && p c) N) (all - cnI (fun c => (!decide (nI c &&& nI s = 0)) && p c) N)
/-- best taste: (which, the greater part) behind the sets 1 .. n -/
def btI (p : Nat → Bool) (all : Int32) (N : Nat) (l0 : Int32) : Nat → Int32 × Int32
  | 0 => (-9, l0)
  | n + 1 => if grI p all N (n + 1) < (btI p all N l0 n).2 then (nI (n + 1), grI p all N (n + 1)) else btI p all N l0 n
theorem ir_n {x : Int32} : (x < x) = False := eq_false (Int32.lt_irrefl)
theorem mx_c {a b : Int32} : (if b < a then a else b) = mxI a b := by
  unfold mxI
  by_cases h : b < a
  · rw [if_pos h, if_neg (fun z => Int32.lt_irrefl (Int32.lt_trans h z))]
  · rw [if_neg h]
    by_cases h2 : a < b
    · rw [if_pos h2]
    · rw [if_neg h2]
      exact Int32.le_antisymm (Int32.not_lt.mp h2) (Int32.not_lt.mp h)
/-- SHARE, claim by claim -/
def rmS (n all x : Int32) : Int32 := n * x - n * x / all * all
def shL (n all : Int32) (cl : Nat → Int32) : Nat → Int32
  | 0 => n
  | i + 1 => shL n all cl i - n * cl i / all
def shA (n all c : Int32) (over : Int32) (cl : Nat → Int32) : Nat → Int32
  | 0 => 0
  | i + 1 => if over < rmS n all (cl i) then shA n all c over cl i + 1 else if rmS n all (cl i) = over ∧ nI i < c then shA n all c over cl i + 1 else shA n all c over cl i
/-- pounds and cream, day by day, all beaten each day -/
def cpN (H : Nat → Nat) (t0 P C : Nat) : Nat → Nat × Nat
  | 0 => (P, C)
  | k + 1 => ((cpN H t0 P C k).1 + (cpN H t0 P C k).2 / 3, (cpN H t0 P C k).2 % 3 + H (t0 + k) / 2)
theorem and1 (x : Int32) : x &&& 1 = 0 ∨ x &&& 1 = 1 := by
  have h : (x &&& 1) &&& 1 = x &&& 1 := by
    rw [Int32.and_assoc]
    rfl
  exact b01 h
theorem and1_eq {x : Int32} : (x &&& 1 = 1) = ¬ (x &&& 1 = 0) := by
  rcases and1 x with h | h <;> rw [h] <;> decide
/-- is a work in a set -/
def inS (s w : Nat) : Prop := ¬ (nI s >>> (nI w &&& 31) &&& 1 = 0)
def pdI (du po : Nat → Int32) (s : Nat) (d : Int32) : Nat → Int32
  | 0 => 0
  | w + 1 => if nI s >>> (nI w &&& 31) &&& 1 = 0 then pdI du po s d w else if d < du w then pdI du po s d w else pdI du po s d w + po w
def woI (wo : Nat → Int32) (s : Nat) : Nat → Int32
  | 0 => 0
  | w + 1 => if nI s >>> (nI w &&& 31) &&& 1 = 0 then woI wo s w else woI wo s w + wo w
/-- can all of a set be fed (the class's way), the first n works -/
def caB (fed day : Int32) (du po : Nat → Int32) (cm : Nat → Int32) (s nW : Nat) : Nat → Bool
  | 0 => true
  | w + 1 => caB fed day du po cm s nW w && (decide (nI s >>> (nI w &&& 31) &&& 1 = 0) || (decide (fed >>> (nI w &&& 31) &&& 1 = 0) && !decide (du w < day) && !decide (cm (du w).toNatClampNeg < pdI du po s (du w) nW)))
theorem caB_le {fed day : Int32} {du po cm : Nat → Int32} {s nW n k : Nat} (h : caB fed day du po cm s nW (n + k) = true) : caB fed day du po cm s nW n = true := by
  induction k with
  | zero => exact h
  | succ k ih =>
    rw [← Nat.add_assoc, caB, Bool.and_eq_true] at h
    exact ih h.1
theorem caB_f {fed day : Int32} {du po cm : Nat → Int32} {s nW n m : Nat} (h : caB fed day du po cm s nW n = false) (hm : n ≤ m) : caB fed day du po cm s nW m = false := by
  cases e : caB fed day du po cm s nW m with
  | false => rfl
  | true =>
    obtain ⟨k, rfl⟩ : ∃ k, m = n + k := ⟨m - n, by omega⟩
    rw [caB_le e] at h
    cases h
/-- the menu (which, worth) of the sets below n -/
def mnB (ok : Nat → Bool) (wo : Nat → Int32) : Nat → Int32 × Int32
  | 0 => (0, 0)
  | n + 1 => if (mnB ok wo n).2 < wo n ∧ ok n = true then (nI n, wo n) else mnB ok wo n
theorem inB_k {w k : Nat} (h : w ≤ k) (hk : k < 2 ^ 31) : inB (nI w) 0 (nI k) := ⟨nI_pos' (by omega), (nI_leI (by omega) hk).mpr h⟩
/-- 1 << n, n small -/
theorem shl_n : ∀ n, n < 7 → (1 : Int32) <<< (nI n &&& 31) = nI (2 ^ n) := by decide +kernel
theorem mnB_1 {ok : Nat → Bool} {wo : Nat → Int32} (h : wo 0 = 0) : mnB ok wo 1 = (0, 0) := by
  rw [mnB, if_neg (fun z => by rw [h] at z; exact Int32.lt_irrefl z.1)]
  rfl
theorem woI_0 {wo : Nat → Int32} : ∀ n, n < 32 → woI wo 0 n = 0
  | 0, _ => rfl
  | n + 1, h => by
    have : ∀ w, w < 32 → nI 0 >>> (nI w &&& 31) &&& 1 = 0 := by decide +kernel
    rw [woI, if_pos (this n (by omega)), woI_0 n (by omega)]
/-- by: what the reference writes, day by day -/
def byN (H : Nat → Nat) (nD t0 P C : Nat) (U : Nat → Int32) (k : Nat) : Nat → Int32 := fun j => if t0 ≤ j ∧ j < t0 + k then nI (cpN H t0 P C (min (j + 1) nD - t0)).1 else U j
theorem byN_0 {H : Nat → Nat} {nD t0 P C : Nat} {U : Nat → Int32} : byN H nD t0 P C U 0 = U := by
  funext j
  unfold byN
  rw [if_neg (by omega)]
theorem byN_s {H : Nat → Nat} {nD t0 P C k : Nat} {U : Nat → Int32} : upd (byN H nD t0 P C U k) (t0 + k) (nI (cpN H t0 P C (min (t0 + k + 1) nD - t0)).1) = byN H nD t0 P C U (k + 1) := by
  funext j
  unfold upd byN
  by_cases h : j = t0 + k
  · subst h
    rw [if_pos rfl, if_pos (by omega)]
  · by_cases h2 : t0 ≤ j ∧ j < t0 + k
    · rw [if_neg h, if_pos h2, if_pos (by omega)]
    · rw [if_neg h, if_neg h2, if_neg (by omega)]
/-- the reference's way: the works of a set, each not fed, not past its due -/
def wfB (fed day : Int32) (du : Nat → Int32) (s : Nat) : Nat → Bool
  | 0 => true
  | w + 1 => wfB fed day du s w && (decide (nI s >>> (nI w &&& 31) &&& 1 = 0) || (!decide (fed >>> (nI w &&& 31) &&& 1 = 1) && !decide (du w < day)))
theorem wfB_le {fed day : Int32} {du : Nat → Int32} {s n k : Nat} (h : wfB fed day du s (n + k) = true) : wfB fed day du s n = true := by
  induction k with
  | zero => exact h
  | succ k ih =>
    rw [← Nat.add_assoc, wfB, Bool.and_eq_true] at h
    exact ih h.1
theorem wfB_f {fed day : Int32} {du : Nat → Int32} {s n m : Nat} (h : wfB fed day du s n = false) (hm : n ≤ m) : wfB fed day du s m = false := by
  cases e : wfB fed day du s m with
  | false => rfl
  | true =>
    obtain ⟨k, rfl⟩ : ∃ k, m = n + k := ⟨m - n, by omega⟩
    rw [wfB_le e] at h
    cases h
/-- the reference's way: no more pounds than come, from a day on -/
def dfB (du po by_ : Nat → Int32) (s nW t0 : Nat) : Nat → Bool
  | 0 => true
  | k + 1 => dfB du po by_ s nW t0 k && !decide (by_ (t0 + k) < pdI du po s (nI (t0 + k)) nW)
theorem dfB_le {du po by_ : Nat → Int32} {s nW t0 n k : Nat} (h : dfB du po by_ s nW t0 (n + k) = true) : dfB du po by_ s nW t0 n = true := by
  induction k with
  | zero => exact h
  | succ k ih =>
    rw [← Nat.add_assoc, dfB, Bool.and_eq_true] at h
    exact ih h.1
theorem dfB_f {du po by_ : Nat → Int32} {s nW t0 n m : Nat} (h : dfB du po by_ s nW t0 n = false) (hm : n ≤ m) : dfB du po by_ s nW t0 m = false := by
  cases e : dfB du po by_ s nW t0 m with
  | false => rfl
  | true =>
    obtain ⟨k, rfl⟩ : ∃ k, m = n + k := ⟨m - n, by omega⟩
    rw [dfB_le e] at h
    cases h
/-- the reference's menu: (which, worth) of the sets below n -/
def mnM (one : Nat → Int32) : Nat → Int32 × Int32
  | 0 => (0, 0)
  | n + 1 => if (mnM one n).2 < one n then (nI n, one n) else mnM one n
/-- powers, ways, the common divisor, as both say them -/
def pwI (b : Int32) : Nat → Int32
  | 0 => 1
  | n + 1 => pwI b n * b
def wyI (n k : Int32) : Nat → Int32
  | 0 => 1
  | i + 1 => wyI n k i * (n - k + nI (i + 1)) / nI (i + 1)
def cdI : Nat → Int32 → Int32 → Int32
  | 0, a, _ => a
  | f + 1, a, b => if b = 0 then a else cdI f b (a - a / b * b)
def cdZ : Nat → Int32 → Int32 → Bool
  | 0, _, b => decide (b = 0)
  | f + 1, a, b => decide (b = 0) || cdZ f b (a - a / b * b)
/-- the upper number: the class's, the reference's -/
def odU (n x k : Nat) : Nat → Int32
  | 0 => 0
  | m + 1 => odU n x k m + wyI (nI n) (nI (k + m)) (k + m) * pwI (nI x) (k + m) * pwI (nI (10 - x)) (n - (k + m))
def pcN (c : Nat) : Nat := (onI (nI c)).toNatClampNeg
def odM (n x k : Nat) : Nat → Int32
  | 0 => 0
  | s + 1 => if onI (nI s) < nI k then odM n x k s else odM n x k s + pwI (nI x) (pcN s) * pwI (nI (10 - x)) (n - pcN s)
theorem on_pc : ∀ c, c < 64 → onI (nI c) = nI (pcN c) ∧ pcN c ≤ 6 := by decide +kernel
theorem pc_le : ∀ n, n < 7 → ∀ c, c < 2 ^ n → pcN c ≤ n := by decide +kernel
def odT (n x k : Nat) : Bool := decide (odU n x k (n + 1 - k) = odM n x k (2 ^ n)) && cdZ 40 (odU n x k (n + 1 - k)) (pwI 10 n) && decide (cdI 40 (odU n x k (n + 1 - k)) (pwI 10 n) = cdI 100 (odU n x k (n + 1 - k)) (pwI 10 n)) && decide (1 < cdI 100 (odU n x k (n + 1 - k)) (pwI 10 n) ∨ cdI 100 (odU n x k (n + 1 - k)) (pwI 10 n) = 1)
theorem od_all : ∀ n, n < 7 → ∀ x, x < 11 → ∀ k, k < 7 → odT n x k = true := by decide +kernel
theorem inB_of {x : Int32} {k : Nat} (hk : k < 2 ^ 31) (h : inB x 0 (nI k)) : ∃ j, j ≤ k ∧ x = nI j := by
  obtain ⟨j, hj, rfl⟩ := nI_of (fun z => Int32.not_le.mpr z h.1)
  exact ⟨j, (nI_leI hj hk).mp h.2, rfl⟩
