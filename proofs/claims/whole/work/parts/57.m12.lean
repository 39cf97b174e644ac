/-- pounds due by a day, of a set, in plain numbers -/
def pdN (du po : Nat → Nat) (s d : Nat) : Nat → Nat
  | 0 => 0
  | w + 1 => if nI s >>> (nI w &&& 31) &&& 1 = 0 then pdN du po s d w else if d < du w then pdN du po s d w else pdN du po s d w + po w
section M12
variable {L : Nat} {u v : Bool} {I F I' F' : Nat → Nat → Int32} {J J' : Nat → Int64} {D : Nat} {s : (Nat → Nat) × (Nat → Nat → Nat)}
theorem cp_b {H : Nat → Nat} {t0 P C nD : Nat} (hC : C < 1000) (hH : ∀ t, t < nD → H t < 1000) : ∀ k, t0 + k ≤ nD → (cpN H t0 P C k).2 < 1000 ∧ (cpN H t0 P C k).1 ≤ P + 400 * k
  | 0, _ => ⟨hC, Nat.le_refl _⟩
  | k + 1, h => by
    have a := cp_b (t0 := t0) (P := P) hC hH k (by omega)
    have b := hH (t0 + k) (by omega)
    rw [cpN]
    refine ⟨?_, ?_⟩
    · show (cpN H t0 P C k).2 % 3 + H (t0 + k) / 2 < 1000
      omega
    · show (cpN H t0 P C k).1 + (cpN H t0 P C k).2 / 3 ≤ P + 400 * (k + 1)
      omega
theorem cp_m {H : Nat → Nat} {t0 P C : Nat} {k : Nat} : ∀ m, (cpN H t0 P C k).1 ≤ (cpN H t0 P C (k + m)).1
  | 0 => Nat.le_refl _
  | m + 1 => Nat.le_trans (cp_m m) (by rw [← Nat.add_assoc, cpN]; exact Nat.le_add_right _ _)
theorem pdN_b {du po : Nat → Nat} {s d n : Nat} (h : ∀ w, w < n → po w ≤ 30) : pdN du po s d n ≤ 30 * n := by
  induction n with
  | zero => exact Nat.le_refl _
  | succ n ih =>
    have a := ih (fun w hw => h w (by omega))
    have b := h n (by omega)
    rw [pdN]
    split
    · omega
    · split <;> omega
theorem pdI_n {du po : Nat → Nat} {fd fp : Nat → Int32} {s d n : Nat} (hd : d < 1000) (h : ∀ w, w < n → fd w = nI (du w) ∧ du w < 14 ∧ fp w = nI (po w)) : pdI fd fp s (nI d) n = nI (pdN du po s d n) := by
  induction n with
  | zero => rfl
  | succ n ih =>
    have a := ih (fun w hw => h w (by omega))
    obtain ⟨b1, b2, b3⟩ := h n (by omega)
    rw [pdI, pdN, a, b1, b3]
    by_cases g : nI s >>> (nI n &&& 31) &&& 1 = 0
    · rw [if_pos g, if_pos g]
    · rw [if_neg g, if_neg g]
      by_cases g2 : d < du n
      · rw [if_pos g2, if_pos (lt_n g2 (by omega))]
      · rw [if_neg g2, if_neg (nl_n (by omega) (by omega)), ad_n]
theorem pdN_s {du po : Nat → Nat} {s d n : Nat} (h : ∀ w, w < n → ¬ (nI s >>> (nI w &&& 31) &&& 1 = 0) → du w ≠ d + 1) : pdN du po s (d + 1) n = pdN du po s d n := by
  induction n with
  | zero => rfl
  | succ n ih =>
    have a := ih (fun w hw => h w (by omega))
    rw [pdN, pdN, a]
    by_cases g : nI s >>> (nI n &&& 31) &&& 1 = 0
    · rw [if_pos g, if_pos g]
    · have b := h n (by omega) g
      rw [if_neg g, if_neg g]
      by_cases g2 : d < du n
      · rw [if_pos g2, if_pos (by omega)]
      · rw [if_neg g2, if_neg (by omega)]
theorem pdN_0 {du po : Nat → Nat} {s d n : Nat} (h : ∀ w, w < n → ¬ (nI s >>> (nI w &&& 31) &&& 1 = 0) → d < du w) : pdN du po s d n = 0 := by
  induction n with
  | zero => rfl
  | succ n ih =>
    have a := ih (fun w hw => h w (by omega))
    rw [pdN, a]
    by_cases g : nI s >>> (nI n &&& 31) &&& 1 = 0
    · rw [if_pos g]
    · rw [if_neg g, if_pos (h n (by omega) g)]
/-- day by day is what work by work is -/
theorem due_all {du po cm : Nat → Nat} {s t0 n : Nat} (hm : ∀ d, t0 ≤ d → d < 14 → cm d ≤ cm (d + 1)) (h1 : ∀ w, w < n → ¬ (nI s >>> (nI w &&& 31) &&& 1 = 0) → t0 ≤ du w ∧ pdN du po s (du w) n ≤ cm (du w)) : ∀ k, t0 + k < 14 → pdN du po s (t0 + k) n ≤ cm (t0 + k) := by
  intro k
  induction k with
  | zero =>
    intro hk
    by_cases g : ∃ w, w < n ∧ ¬ (nI s >>> (nI w &&& 31) &&& 1 = 0) ∧ du w = t0
    · obtain ⟨w, w1, w2, w3⟩ := g
      have := (h1 w w1 w2).2
      rw [w3] at this
      exact this
    · rw [pdN_0 (d := t0 + 0)]
      · exact Nat.zero_le _
      · intro w w1 w2
        have := (h1 w w1 w2).1
        have : du w ≠ t0 := fun z => g ⟨w, w1, w2, z⟩
        omega
  | succ k ih =>
    intro hk
    by_cases g : ∃ w, w < n ∧ ¬ (nI s >>> (nI w &&& 31) &&& 1 = 0) ∧ du w = t0 + (k + 1)
    · obtain ⟨w, w1, w2, w3⟩ := g
      have := (h1 w w1 w2).2
      rw [w3] at this
      exact this
    · rw [← Nat.add_assoc, pdN_s (fun w w1 w2 z => g ⟨w, w1, w2, by omega⟩)]
      exact Nat.le_trans (ih (by omega)) (hm _ (by omega) (by omega))
theorem caB_n {fed day : Int32} {du po cm : Nat → Int32} {s nW : Nat} : ∀ n, (caB fed day du po cm s nW n = true ↔ ∀ w, w < n → ¬ (nI s >>> (nI w &&& 31) &&& 1 = 0) → fed >>> (nI w &&& 31) &&& 1 = 0 ∧ ¬ du w < day ∧ ¬ cm (du w).toNatClampNeg < pdI du po s (du w) nW)
  | 0 => ⟨fun _ w hw => absurd hw (Nat.not_lt_zero w), fun _ => rfl⟩
  | n + 1 => by
    rw [caB, Bool.and_eq_true, caB_n n, Bool.or_eq_true, decide_eq_true_eq, Bool.and_eq_true, Bool.and_eq_true, decide_eq_true_eq, Bool.not_eq_true', decide_eq_false_iff_not, Bool.not_eq_true', decide_eq_false_iff_not]
    constructor
    · intro ⟨a, b⟩ w hw hs
      by_cases g : w = n
      · subst g
        rcases b with b | b
        · exact absurd b hs
        · exact ⟨b.1.1, b.1.2, b.2⟩
      · exact a w (by omega) hs
    · intro a
      refine ⟨fun w hw => a w (by omega), ?_⟩
      by_cases g : nI s >>> (nI n &&& 31) &&& 1 = 0
      · exact Or.inl g
      · have := a n (by omega) g
        exact Or.inr ⟨⟨this.1, this.2.1⟩, this.2.2⟩
theorem wfB_n {fed day : Int32} {du : Nat → Int32} {s : Nat} : ∀ n, (wfB fed day du s n = true ↔ ∀ w, w < n → ¬ (nI s >>> (nI w &&& 31) &&& 1 = 0) → ¬ fed >>> (nI w &&& 31) &&& 1 = 1 ∧ ¬ du w < day)
  | 0 => ⟨fun _ w hw => absurd hw (Nat.not_lt_zero w), fun _ => rfl⟩
  | n + 1 => by
    rw [wfB, Bool.and_eq_true, wfB_n n, Bool.or_eq_true, decide_eq_true_eq, Bool.and_eq_true, Bool.not_eq_true', decide_eq_false_iff_not, Bool.not_eq_true', decide_eq_false_iff_not]
    constructor
    · intro ⟨a, b⟩ w hw hs
      by_cases g : w = n
      · subst g
        rcases b with b | b
        · exact absurd b hs
        · exact b
      · exact a w (by omega) hs
    · intro a
      refine ⟨fun w hw => a w (by omega), ?_⟩
      by_cases g : nI s >>> (nI n &&& 31) &&& 1 = 0
      · exact Or.inl g
      · exact Or.inr (a n (by omega) g)
theorem dfB_n {du po by_ : Nat → Int32} {s nW t0 : Nat} : ∀ n, (dfB du po by_ s nW t0 n = true ↔ ∀ k, k < n → ¬ by_ (t0 + k) < pdI du po s (nI (t0 + k)) nW)
  | 0 => ⟨fun _ w hw => absurd hw (Nat.not_lt_zero w), fun _ => rfl⟩
  | n + 1 => by
    rw [dfB, Bool.and_eq_true, dfB_n n, Bool.not_eq_true', decide_eq_false_iff_not]
    constructor
    · intro ⟨a, b⟩ k hk
      by_cases g : k = n
      · subst g; exact b
      · exact a k (by omega)
    · exact fun a => ⟨fun k hk => a k (by omega), a n (by omega)⟩
/-- a set can be fed: the class's way and the reference's -/
theorem menu_eq {fed fed' : Int32} {fd fp fd' fp' by_ : Nat → Int32} {du po : Nat → Nat} {cm : Nat → Nat} {s nW t0 : Nat} {cmI : Nat → Int32} (h6 : nW ≤ 6) (ht : t0 ≤ 14) (hf : fed = fed') (h : ∀ w, w < nW → fd w = nI (du w) ∧ du w < 14 ∧ fp w = nI (po w)) (h' : ∀ w, w < nW → fd' w = nI (du w) ∧ du w < 14 ∧ fp' w = nI (po w)) (hpo : ∀ w, w < nW → po w ≤ 30) (hcm : ∀ d, t0 ≤ d → d < 14 → cmI d = nI (cm d) ∧ by_ d = nI (cm d) ∧ cm d < 100000) (hm : ∀ d, t0 ≤ d → d < 14 → cm d ≤ cm (d + 1)) : caB fed (nI t0) fd fp cmI s nW nW = true ↔ (wfB fed' (nI t0) fd' s nW = true ∧ dfB fd' fp' by_ s nW t0 (14 - t0) = true) := by
  rw [caB_n, wfB_n, dfB_n]
  subst hf
  have hb : ∀ d, pdN du po s d nW < 1000 := fun d => by have := pdN_b (du := du) (s := s) (d := d) hpo; omega
  constructor
  · intro a
    have a2 : ∀ w, w < nW → ¬ (nI s >>> (nI w &&& 31) &&& 1 = 0) → t0 ≤ du w ∧ pdN du po s (du w) nW ≤ cm (du w) := by
      intro w hw hs
      obtain ⟨b1, b2, b3⟩ := a w hw hs
      obtain ⟨c1, c2, c3⟩ := h w hw
      rw [c1] at b2 b3
      have d1 : t0 ≤ du w := by
        by_cases g : t0 ≤ du w
        · exact g
        · exact absurd (lt_n (by omega) (by omega)) b2
      refine ⟨d1, ?_⟩
      obtain ⟨e1, e2, e3⟩ := hcm (du w) d1 c2
      rw [nI_clamp (by omega), e1, pdI_n (by omega) h] at b3
      by_cases g : pdN du po s (du w) nW ≤ cm (du w)
      · exact g
      · exact absurd (lt_n (by omega) (by have := hb (du w); omega)) b3
    refine ⟨fun w hw hs => ?_, fun k hk => ?_⟩
    · obtain ⟨b1, b2, b3⟩ := a w hw hs
      refine ⟨by rw [b1]; decide, ?_⟩
      rw [(h w hw).1] at b2
      rw [(h' w hw).1]
      exact b2
    · obtain ⟨e1, e2, e3⟩ := hcm (t0 + k) (by omega) (by omega)
      have := due_all hm a2 k (by omega)
      rw [e2, pdI_n (by omega) h']
      exact nl_n this (by omega)
  · intro ⟨a, b⟩ w hw hs
    obtain ⟨a1, a2⟩ := a w hw hs
    obtain ⟨c1, c2, c3⟩ := h w hw
    rw [(h' w hw).1] at a2
    have d1 : t0 ≤ du w := by
      by_cases g : t0 ≤ du w
      · exact g
      · exact absurd (lt_n (by omega) (by omega)) a2
    have b2 := b (du w - t0) (by omega)
    rw [show t0 + (du w - t0) = du w by omega] at b2
    obtain ⟨e1, e2, e3⟩ := hcm (du w) d1 c2
    rw [e2, pdI_n (by omega) h'] at b2
    refine ⟨?_, by rw [c1]; exact a2, ?_⟩
    · rcases and1 (fed >>> (nI w &&& 31)) with z | z
      · exact z
      · exact absurd z a1
    · rw [c1, nI_clamp (by omega), e1, pdI_n (by omega) h]
      exact b2
theorem woI_c {f g : Nat → Int32} {s : Nat} : ∀ n, (∀ w, w < n → f w = g w) → woI f s n = woI g s n
  | 0, _ => rfl
  | n + 1, h => by
    rw [woI, woI, woI_c n (fun w hw => h w (by omega)), h n (by omega)]
theorem mn_eq {ok : Nat → Bool} {wo one : Nat → Int32} (h : ∀ s, one s = if ok s = true then wo s else -9) : ∀ n, mnB ok wo n = mnM one n ∧ 0 ≤ (mnM one n).2
  | 0 => ⟨rfl, (by decide : (0 : Int32) ≤ 0)⟩
  | n + 1 => by
    obtain ⟨a, b⟩ := mn_eq h n
    rw [mnB, mnM, a, h n]
    by_cases g : ok n = true
    · rw [if_pos g]
      by_cases g2 : (mnM one n).2 < wo n
      · rw [if_pos ⟨g2, g⟩, if_pos g2]
        exact ⟨rfl, Int32.le_of_lt (Int32.lt_of_le_of_lt b g2)⟩
      · rw [if_neg (fun z => g2 z.1), if_neg g2]
        exact ⟨rfl, b⟩
    · rw [if_neg g, if_neg (fun z => g z.2), if_neg (fun z => absurd (Int32.lt_of_le_of_lt b z) (by decide))]
      exact ⟨rfl, b⟩
end M12
