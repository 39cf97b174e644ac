/-! reading THE TEXT, apart from both programs -/
def rnN (P : Nat → Bool) (T : Nat → Nat) (n : Nat) : Nat → Nat → Nat
  | 0, e => e
  | k + 1, e => if e < n ∧ P (T e) = true then rnN P T n k (e + 1) else e
theorem rnN_le {P : Nat → Bool} {T : Nat → Nat} {n : Nat} : ∀ k e, e ≤ rnN P T n k e ∧ rnN P T n k e ≤ e + k ∧ (e ≤ n → rnN P T n k e ≤ n)
  | 0, e => ⟨Nat.le_refl _, Nat.le_refl _, id⟩
  | k + 1, e => by
    rw [rnN]
    split
    · rename_i h
      have := rnN_le (P := P) (T := T) (n := n) k (e + 1)
      exact ⟨by omega, by omega, fun _ => this.2.2 (by omega)⟩
    · exact ⟨Nat.le_refl _, by omega, id⟩
theorem rnN_in {P : Nat → Bool} {T : Nat → Nat} {n : Nat} : ∀ k e j, e ≤ j → j < rnN P T n k e → P (T j) = true
  | 0, e, j, h1, h2 => by rw [rnN] at h2; omega
  | k + 1, e, j, h1, h2 => by
    rw [rnN] at h2
    split at h2
    · rename_i h
      by_cases g : j = e
      · rw [g]; exact h.2
      · exact rnN_in k (e + 1) j (by omega) h2
    · omega
theorem rnN_end {P : Nat → Bool} {T : Nat → Nat} {n : Nat} : ∀ k e, n ≤ e + k → rnN P T n k e < n → P (T (rnN P T n k e)) = false
  | 0, e, h, h2 => by rw [rnN] at h2; omega
  | k + 1, e, h, h2 => by
    rw [rnN] at h2 ⊢
    split
    · rename_i g
      rw [if_pos g] at h2
      exact rnN_end k (e + 1) (by omega) h2
    · rename_i g
      rw [if_neg g] at h2
      cases hp : P (T e) with
      | false => rfl
      | true => exact absurd ⟨h2, hp⟩ g
def isB32 (c : Nat) : Bool := decide (c = 32)
def isDg (c : Nat) : Bool := decide (48 ≤ c ∧ c ≤ 57)
/-- behind the blanks -/
def blk (T : Nat → Nat) (n e : Nat) : Nat := rnN isB32 T n (n - e) e
/-- behind the digits -/
def dge (T : Nat → Nat) (n p : Nat) : Nat := rnN isDg T n (n - p) p
/-- behind the token that comes next -/
def nxe (T : Nat → Nat) (n e : Nat) : Nat := if isDg (T (blk T n e)) = true then dge T n (blk T n e) else blk T n e + 1
/-- a number stands there -/
def okn (T : Nat → Nat) (n e : Nat) : Bool := decide (blk T n e < n ∧ isDg (T (blk T n e)) = true ∧ dge T n (blk T n e) - blk T n e ≤ 2 ∧ ¬ (dge T n (blk T n e) - blk T n e = 2 ∧ T (blk T n e) = 48))
def nvl (T : Nat → Nat) (n e : Nat) : Nat := if dge T n (blk T n e) - blk T n e = 2 then 10 * (T (blk T n e) - 48) + (T (blk T n e + 1) - 48) else T (blk T n e) - 48
def nmO (T : Nat → Nat) (n e lo hi : Nat) : Bool := okn T n e && decide (lo ≤ nvl T n e ∧ nvl T n e ≤ hi)
def spO (T : Nat → Nat) (n e : Nat) : Bool := decide (blk T n e < n ∧ T (blk T n e) = 59)
theorem blk_le {T : Nat → Nat} {n e : Nat} (h : e ≤ n) : e ≤ blk T n e ∧ blk T n e ≤ n := ⟨(rnN_le _ _).1, (rnN_le _ _).2.2 h⟩
theorem dge_le {T : Nat → Nat} {n p : Nat} (h : p < n) (hd : isDg (T p) = true) : p < dge T n p ∧ dge T n p ≤ n := by
  have h1 : dge T n p = rnN isDg T n (n - p - 1) (p + 1) := by
    unfold dge
    rw [show n - p = (n - p - 1) + 1 by omega, rnN, if_pos ⟨h, hd⟩]
    rfl
  rw [h1]
  exact ⟨(rnN_le _ _).1, (rnN_le _ _).2.2 (by omega)⟩
theorem nxe_le {T : Nat → Nat} {n e : Nat} (h : e ≤ n) (hb : blk T n e < n) : e < nxe T n e ∧ nxe T n e ≤ n := by
  have h1 := blk_le (T := T) h
  unfold nxe
  split
  · rename_i g
    have := dge_le hb g
    omega
  · omega
/-- one number, then the rest -/
def pN {α : Type} (T : Nat → Nat) (n e lo hi : Nat) (f : Nat → Nat → Nat ⊕ α) : Nat ⊕ α := if nmO T n e lo hi = true then f (nvl T n e) (nxe T n e) else .inl (blk T n e)
def pS {α : Type} (T : Nat → Nat) (n e : Nat) (x : Nat → α) : Nat ⊕ α := if spO T n e = true then .inr (x (nxe T n e)) else .inl (blk T n e)
/-- has the draft room for an item that begins so -/
def roO (c : Nat → Nat) (k : Nat) : Bool := if k = 99 then decide (c 2 < 4) else if k = 100 then decide (c 0 < 14) else if k = 102 then decide (c 4 = 0) else if k = 119 then decide (c 1 < 6) else false
/-- what is told: numbers of days, works, claims; dairies, whether they are told; and the rows -/
def adD (s : (Nat → Nat) × (Nat → Nat → Nat)) (x y : Nat) : (Nat → Nat) × (Nat → Nat → Nat) := (va_up s.1 0 (s.1 0 + 1), va_up (va_up s.2 0 (va_up (s.2 0) (s.1 0) x)) 1 (va_up (s.2 1) (s.1 0) y))
def adW (s : (Nat → Nat) × (Nat → Nat → Nat)) (x y z : Nat) : (Nat → Nat) × (Nat → Nat → Nat) := (va_up s.1 1 (s.1 1 + 1), va_up (va_up (va_up s.2 2 (va_up (s.2 2) (s.1 1) x)) 3 (va_up (s.2 3) (s.1 1) y)) 4 (va_up (s.2 4) (s.1 1) z))
def adC (s : (Nat → Nat) × (Nat → Nat → Nat)) (x : Nat) : (Nat → Nat) × (Nat → Nat → Nat) := (va_up s.1 2 (s.1 2 + 1), va_up s.2 5 (va_up (s.2 5) (s.1 2) x))
def adF (s : (Nat → Nat) × (Nat → Nat → Nat)) (x : Nat) : (Nat → Nat) × (Nat → Nat → Nat) := (va_up (va_up s.1 3 x) 4 1, s.2)
/-- one item: a fault's place, or what is told behind it and where it ends -/
def itm (T : Nat → Nat) (n e : Nat) (s : (Nat → Nat) × (Nat → Nat → Nat)) : Nat ⊕ (((Nat → Nat) × (Nat → Nat → Nat)) × Nat) :=
  if roO s.1 (T (blk T n e)) = true then
    (if T (blk T n e) = 100 then pN T n (blk T n e + 1) 0 24 fun x e1 => pN T n e1 0 9 fun y e2 => pS T n e2 fun e3 => (adD s x y, e3)
    else if T (blk T n e) = 119 then pN T n (blk T n e + 1) 0 13 fun x e1 => pN T n e1 1 30 fun y e2 => pN T n e2 0 99 fun z e3 => pS T n e3 fun e4 => (adW s x y z, e4)
    else if T (blk T n e) = 99 then pN T n (blk T n e + 1) 1 99 fun x e1 => pS T n e1 fun e2 => (adC s x, e2)
    else pN T n (blk T n e + 1) 1 5 fun x e1 => pS T n e1 fun e2 => (adF s x, e2))
  else .inl (blk T n e)
def prs (T : Nat → Nat) (n : Nat) : Nat → Nat → Nat → (Nat → Nat) × (Nat → Nat → Nat) → Nat ⊕ (((Nat → Nat) × (Nat → Nat → Nat)) × Nat)
  | 0, _, i, s => .inr (s, i)
  | k + 1, e, i, s => if blk T n e < n then (match itm T n e s with
    | .inl f => .inl f
    | .inr x => prs T n k x.2 (i + 1) x.1) else .inr (s, i)
/-- what can be told -/
def Gd (s : (Nat → Nat) × (Nat → Nat → Nat)) : Prop :=
  (s.1 0 ≤ 14 ∧ s.1 1 ≤ 6 ∧ s.1 2 ≤ 4 ∧ 1 ≤ s.1 3 ∧ s.1 3 ≤ 5 ∧ s.1 4 ≤ 1) ∧
  (∀ j, j < s.1 0 → s.2 0 j ≤ 24 ∧ s.2 1 j ≤ 9) ∧
  (∀ j, j < s.1 1 → s.2 2 j ≤ 13 ∧ 1 ≤ s.2 3 j ∧ s.2 3 j ≤ 30 ∧ s.2 4 j ≤ 99) ∧
  (∀ j, j < s.1 2 → 1 ≤ s.2 5 j ∧ s.2 5 j ≤ 99)
theorem nm_le {T : Nat → Nat} {n e lo hi : Nat} (h : nmO T n e lo hi = true) : blk T n e < n ∧ lo ≤ nvl T n e ∧ nvl T n e ≤ hi := by
  unfold nmO okn at h
  rw [Bool.and_eq_true] at h
  exact ⟨(of_decide_eq_true h.1).1, of_decide_eq_true h.2⟩
theorem sp_lt {T : Nat → Nat} {n e : Nat} (h : spO T n e = true) : blk T n e < n := (of_decide_eq_true h).1
theorem Gd_D {s : (Nat → Nat) × (Nat → Nat → Nat)} {x y : Nat} (h : Gd s) (h0 : s.1 0 < 14) (hx : x ≤ 24) (hy : y ≤ 9) : Gd (adD s x y) := by
  obtain ⟨⟨a1, a2, a3, a4, a5, a6⟩, b1, b2, b3⟩ := h
  unfold Gd adD
  simp (config := { decide := true }) only [up_s, up_n, ne_eq, not_false_eq_true]
  refine ⟨⟨h0, a2, a3, a4, a5, a6⟩, fun j hj => ?_, b2, b3⟩
  by_cases g : j = s.1 0
  · subst g; rw [up_s, up_s]; exact ⟨hx, hy⟩
  · rw [up_n g, up_n g]; exact b1 j (by omega)
theorem Gd_W {s : (Nat → Nat) × (Nat → Nat → Nat)} {x y z : Nat} (h : Gd s) (h0 : s.1 1 < 6) (hx : x ≤ 13) (hy1 : 1 ≤ y) (hy : y ≤ 30) (hz : z ≤ 99) : Gd (adW s x y z) := by
  obtain ⟨⟨a1, a2, a3, a4, a5, a6⟩, b1, b2, b3⟩ := h
  unfold Gd adW
  simp (config := { decide := true }) only [up_s, up_n, ne_eq, not_false_eq_true]
  refine ⟨⟨a1, h0, a3, a4, a5, a6⟩, b1, fun j hj => ?_, b3⟩
  by_cases g : j = s.1 1
  · subst g; rw [up_s, up_s, up_s]; exact ⟨hx, hy1, hy, hz⟩
  · rw [up_n g, up_n g, up_n g]; exact b2 j (by omega)
theorem Gd_C {s : (Nat → Nat) × (Nat → Nat → Nat)} {x : Nat} (h : Gd s) (h0 : s.1 2 < 4) (hx1 : 1 ≤ x) (hx : x ≤ 99) : Gd (adC s x) := by
  obtain ⟨⟨a1, a2, a3, a4, a5, a6⟩, b1, b2, b3⟩ := h
  unfold Gd adC
  simp (config := { decide := true }) only [up_s, up_n, ne_eq, not_false_eq_true]
  refine ⟨⟨a1, a2, h0, a4, a5, a6⟩, b1, b2, fun j hj => ?_⟩
  by_cases g : j = s.1 2
  · subst g; rw [up_s]; exact ⟨hx1, hx⟩
  · rw [up_n g]; exact b3 j (by omega)
theorem Gd_F {s : (Nat → Nat) × (Nat → Nat → Nat)} {x : Nat} (h : Gd s) (hx1 : 1 ≤ x) (hx : x ≤ 5) : Gd (adF s x) := by
  obtain ⟨⟨a1, a2, a3, a4, a5, a6⟩, b1, b2, b3⟩ := h
  unfold Gd adF
  simp (config := { decide := true }) only [up_s, up_n, ne_eq, not_false_eq_true]
  exact ⟨⟨a1, a2, a3, hx1, hx, trivial⟩, b1, b2, b3⟩
theorem itm_ok {T : Nat → Nat} {n e : Nat} {s : (Nat → Nat) × (Nat → Nat → Nat)} {x : ((Nat → Nat) × (Nat → Nat → Nat)) × Nat} (hG : Gd s) (he : e ≤ n) (hb : blk T n e < n) (h : itm T n e s = .inr x) : Gd x.1 ∧ e < x.2 ∧ x.2 ≤ n := by
  have q1 := blk_le (T := T) he
  unfold itm at h
  split at h
  · rename_i hr
    unfold roO at hr
    split at h
    · rename_i hk
      rw [hk] at hr
      have h0 : s.1 0 < 14 := of_decide_eq_true hr
      unfold pN at h
      split at h
      · rename_i g1
        obtain ⟨n1, n2, n3⟩ := nm_le g1
        have m1 := nxe_le (T := T) (n := n) (e := blk T n e + 1) (by omega) n1
        dsimp only at h
        split at h
        · rename_i g2
          obtain ⟨n4, n5, n6⟩ := nm_le g2
          have m2 := nxe_le (T := T) (n := n) m1.2 n4
          try dsimp only at h
          unfold pS at h
          split at h
          · rename_i g3
            have m3 := nxe_le (T := T) (n := n) m2.2 (sp_lt g3)
            cases h
            exact ⟨Gd_D hG h0 n3 n6, by show e < nxe T n _; omega, m3.2⟩
          · cases h
        · cases h
      · cases h
    · split at h
      · rename_i hk
        rw [hk] at hr
        have h0 : s.1 1 < 6 := of_decide_eq_true hr
        unfold pN at h
        split at h
        · rename_i g1
          obtain ⟨n1, n2, n3⟩ := nm_le g1
          have m1 := nxe_le (T := T) (n := n) (e := blk T n e + 1) (by omega) n1
          dsimp only at h
          split at h
          · rename_i g2
            obtain ⟨n4, n5, n6⟩ := nm_le g2
            have m2 := nxe_le (T := T) (n := n) m1.2 n4
            try dsimp only at h
            split at h
            · rename_i g3
              obtain ⟨n7, n8, n9⟩ := nm_le g3
              have m3 := nxe_le (T := T) (n := n) m2.2 n7
              try dsimp only at h
              unfold pS at h
              split at h
              · rename_i g4
                have m4 := nxe_le (T := T) (n := n) m3.2 (sp_lt g4)
                cases h
                exact ⟨Gd_W hG h0 n3 n5 n6 n9, by show e < nxe T n _; omega, m4.2⟩
              · cases h
            · cases h
          · cases h
        · cases h
      · split at h
        · rename_i hk
          rw [hk] at hr
          have h0 : s.1 2 < 4 := of_decide_eq_true hr
          unfold pN at h
          split at h
          · rename_i g1
            obtain ⟨n1, n2, n3⟩ := nm_le g1
            have m1 := nxe_le (T := T) (n := n) (e := blk T n e + 1) (by omega) n1
            dsimp only at h
            unfold pS at h
            split at h
            · rename_i g4
              have m4 := nxe_le (T := T) (n := n) m1.2 (sp_lt g4)
              cases h
              exact ⟨Gd_C hG h0 n2 n3, by show e < nxe T n _; omega, m4.2⟩
            · cases h
          · cases h
        · unfold pN at h
          split at h
          · rename_i g1
            obtain ⟨n1, n2, n3⟩ := nm_le g1
            have m1 := nxe_le (T := T) (n := n) (e := blk T n e + 1) (by omega) n1
            dsimp only at h
            unfold pS at h
            split at h
            · rename_i g4
              have m4 := nxe_le (T := T) (n := n) m1.2 (sp_lt g4)
              cases h
              exact ⟨Gd_F hG n2 n3, by show e < nxe T n _; omega, m4.2⟩
            · cases h
          · cases h
  · cases h
theorem prs_ok {T : Nat → Nat} {n : Nat} : ∀ (k e i : Nat) (s : (Nat → Nat) × (Nat → Nat → Nat)) (x : ((Nat → Nat) × (Nat → Nat → Nat)) × Nat), Gd s → e ≤ n → prs T n k e i s = .inr x → Gd x.1
  | 0, e, i, s, x, hG, he, h => by cases h; exact hG
  | k + 1, e, i, s, x, hG, he, h => by
    rw [prs] at h
    split at h
    · rename_i hb
      split at h
      · cases h
      · rename_i y hy
        obtain ⟨g1, g2, g3⟩ := itm_ok hG he hb hy
        exact prs_ok k _ _ _ x g1 g3 h
    · cases h; exact hG
