theorem fb_holes : ∀ (m n : Nat) (f : Nat → Nat), (∀ i, i < n → f i < m) → (∀ i j, i < j → j < n → f i ≠ f j) → n ≤ m := by
  intro m
  induction m with
  | zero =>
    intro n f h1 _
    rcases Nat.eq_zero_or_pos n with h | h
    · omega
    · exact absurd (h1 0 h) (Nat.not_lt_zero _)
  | succ m ih =>
    intro n f h1 h2
    by_cases hx : ∃ i, i < n ∧ f i = m
    · obtain ⟨a, ha, hfa⟩ := hx
      have hg := ih (n - 1) (fun i => if i < a then f i else f (i + 1)) (by
        intro i hi
        by_cases q : i < a
        · simp only [if_pos q]
          have b1 := h1 i (by omega)
          have b2 := h2 i a q ha
          omega
        · simp only [if_neg q]
          have b1 := h1 (i + 1) (by omega)
          have b2 := h2 a (i + 1) (by omega) (by omega)
          omega) (by
        intro i j hij hj
        by_cases q : i < a
        · by_cases r : j < a
          · simp only [if_pos q, if_pos r]
            exact h2 i j hij (by omega)
          · simp only [if_pos q, if_neg r]
            exact h2 i (j + 1) (by omega) (by omega)
        · have r : ¬ j < a := by omega
          simp only [if_neg q, if_neg r]
          exact h2 (i + 1) (j + 1) (by omega) (by omega))
      omega
    · have hg := ih n f (fun i hi => by
        have b1 := h1 i hi
        have b2 : f i ≠ m := fun e => hx ⟨i, hi, e⟩
        omega) h2
      omega
/-- two of them in one place -/
theorem fb_twice {m n : Nat} {f : Nat → Nat} (h : ∀ i, i < n → f i < m) (hm : m < n) : ∃ i j, i < j ∧ j < n ∧ f i = f j := by
  refine Classical.byContradiction fun hx => ?_
  have := fb_holes m n f h (fun i j hij hj e => hx ⟨i, j, hij, hj, e⟩)
  omega
/-- as many as places, none twice: each place is taken -/
theorem fb_onto {n : Nat} {f : Nat → Nat} (h : ∀ i, i < n → f i < n) (h2 : ∀ i j, i < j → j < n → f i ≠ f j) {y : Nat} (hy : y < n) : ∃ i, i < n ∧ f i = y := by
  refine Classical.byContradiction fun hx => ?_
  have hne : ∀ i, i < n → f i ≠ y := fun i hi e => hx ⟨i, hi, e⟩
  have := fb_holes (n - 1) n (fun i => if f i < y then f i else f i - 1) (by
    intro i hi
    have b1 := h i hi
    have b2 := hne i hi
    by_cases q : f i < y
    · simp only [if_pos q]; omega
    · simp only [if_neg q]; omega) (by
    intro i j hij hj
    have b1 := hne i (by omega)
    have b2 := hne j hj
    have b3 := h2 i j hij hj
    by_cases q : f i < y
    · by_cases r : f j < y
      · simp only [if_pos q, if_pos r]; exact b3
      · simp only [if_pos q, if_neg r]; omega
    · by_cases r : f j < y
      · simp only [if_neg q, if_pos r]; omega
      · simp only [if_neg q, if_neg r]; omega)
  omega
/-! ===== how many places have a property ===== -/
/-! years by strokes: what can be come to by n strokes -/
def rch (a u v : Nat) : Nat → Nat → Bool
  | 0, y => decide (y = a)
  | n + 1, y => decide (y < 100) && ((decide (u ≤ y) && rch a u v n (y - u)) || (decide (y + v < 100) && rch a u v n (y + v)))
theorem rch_lt {a u v : Nat} (ha : a < 100) : ∀ {n y : Nat}, rch a u v n y = true → y < 100
  | 0, y, h => by
    have : y = a := of_decide_eq_true h
    omega
  | n + 1, y, h => by
    rw [rch, Bool.and_eq_true] at h
    exact of_decide_eq_true h.1
/-- z comes next to y -/
def nxt (u v y z : Nat) : Prop := (z = y + u ∧ z < 100) ∨ (v ≤ y ∧ z = y - v)
theorem rch_nxt {a u v n y z : Nat} (hy : rch a u v n y = true) (hy1 : y < 100) (h : nxt u v y z) : rch a u v (n + 1) z = true := by
  rw [rch, Bool.and_eq_true, Bool.or_eq_true, Bool.and_eq_true, Bool.and_eq_true]
  rcases h with ⟨rfl, h⟩ | ⟨h, rfl⟩
  · exact ⟨decide_eq_true h, Or.inl ⟨decide_eq_true (by omega), by rw [show y + u - u = y by omega]; exact hy⟩⟩
  · exact ⟨decide_eq_true (by omega), Or.inr ⟨decide_eq_true (by omega), by rw [show y - v + v = y by omega]; exact hy⟩⟩
theorem rch_inv {a u v n z : Nat} (ha : a < 100) (h : rch a u v (n + 1) z = true) : ∃ y, rch a u v n y = true ∧ y < 100 ∧ nxt u v y z := by
  rw [rch, Bool.and_eq_true, Bool.or_eq_true, Bool.and_eq_true, Bool.and_eq_true] at h
  obtain ⟨h0, h | h⟩ := h
  · have h0 := of_decide_eq_true h0
    have h1 := of_decide_eq_true h.1
    exact ⟨z - u, h.2, by omega, Or.inl ⟨by omega, h0⟩⟩
  · have h1 := of_decide_eq_true h.1
    exact ⟨z + v, h.2, h1, Or.inr ⟨by omega, by omega⟩⟩
/-- what BACK must say of a year: strokes and how many of them forward, or none -/
def BKr (a u v b : Nat) (s w : Int32) : Prop := (∃ d f, s = nI d ∧ w = nI f ∧ d < 100 ∧ rch a u v d b = true ∧ (∀ n, rch a u v n b = true → d ≤ n) ∧ f ≤ d ∧ a + u * f = b + v * (d - f)) ∨ (s = -1 ∧ ∀ n, rch a u v n b = false)
/-- the queue: qn years stand in it, i of them are gone through -/
def BJ (a u v qn i : Nat) (S W Q : Nat → Int32) (ys ds fs : Nat → Nat) : Prop :=
  (qn ≤ 100 ∧ i ≤ qn ∧ 0 < qn) ∧
  (∀ j, j < qn → ys j < 100 ∧ Q j = nI (ys j) ∧ S (ys j) = nI (ds j) ∧ W (ys j) = nI (fs j) ∧ ds j ≤ j ∧ rch a u v (ds j) (ys j) = true ∧ fs j ≤ ds j ∧ a + u * fs j = ys j + v * (ds j - fs j)) ∧
  (∀ y, y < 100 → (∀ j, j < qn → ys j ≠ y) → S y = -1) ∧
  (∀ j k, j < qn → k < qn → ys j = ys k → j = k) ∧
  (ys 0 = a ∧ ds 0 = 0) ∧
  (∀ k, k < qn → ∀ j, i ≤ j → j < qn → ds k ≤ ds j + 1) ∧
  (∀ j k, j ≤ k → k < qn → ds j ≤ ds k) ∧
  (∀ j, j < i → ∀ z, nxt u v (ys j) z → ∃ k, k < qn ∧ ys k = z ∧ ds k ≤ ds j + 1)
theorem BJ_new {a u v qn i z f : Nat} {S W Q : Nat → Int32} {ys ds fs : Nat → Nat} (H : BJ a u v qn i S W Q ys ds fs) (hi : i < qn) (hz : z < 100) (hs : (z = ys i + u ∧ f = fs i + 1) ∨ (v ≤ ys i ∧ z = ys i - v ∧ f = fs i)) (hn : ∀ j, j < qn → ys j ≠ z) :
    qn < 100 ∧ BJ a u v (qn + 1) i (upd S z (nI (ds i + 1))) (upd W z (nI f)) (upd Q qn (nI z)) (va_up ys qn z) (va_up ds qn (ds i + 1)) (va_up fs qn f) := by
  obtain ⟨⟨h1, h2, h3⟩, hA, hB, hC, hD, hE, hF, hG⟩ := H
  have hq : qn < 100 := by
    rcases Nat.lt_or_ge qn 100 with h | h
    · exact h
    · have hq : qn = 100 := by omega
      subst hq
      obtain ⟨j, hj, e⟩ := fb_onto (n := 100) (f := ys) (fun j hj => (hA j hj).1) (fun j k hjk hk e => by have := hC j k (by omega) hk e; omega) hz
      exact absurd e (hn j hj)
  obtain ⟨a1, a2, a3, a4, a5, a6, a7, a8⟩ := hA i hi
  have o : ∀ {g : Nat → Nat} {x : Nat} {j : Nat}, j < qn → va_up g qn x j = g j := fun hj => up_n (by omega)
  refine ⟨hq, ⟨by omega, by omega, by omega⟩, ?_, ?_, ?_, ?_, ?_, ?_, ?_⟩
  · intro j hj
    rcases Nat.lt_or_ge j qn with h | h
    · obtain ⟨b1, b2, b3, b4, b5, b6, b7, b8⟩ := hA j h
      rw [o h, o h, o h, ud_n (show j ≠ qn by omega), ud_n (hn j h), ud_n (hn j h)]
      exact ⟨b1, b2, b3, b4, b5, b6, b7, b8⟩
    · have e : j = qn := by omega
      subst e
      rw [up_s, up_s, up_s, ud_s, ud_s, ud_s]
      refine ⟨hz, rfl, rfl, rfl, by omega, rch_nxt a6 a1 ?_, ?_, ?_⟩
      · rcases hs with ⟨e1, e2⟩ | ⟨e0, e1, e2⟩
        · exact Or.inl ⟨e1, hz⟩
        · exact Or.inr ⟨e0, e1⟩
      · rcases hs with ⟨e1, e2⟩ | ⟨e0, e1, e2⟩ <;> omega
      · rcases hs with ⟨e1, e2⟩ | ⟨e0, e1, e2⟩
        · rw [e1, e2, show ds i + 1 - (fs i + 1) = ds i - fs i by omega, Nat.mul_succ]
          omega
        · rw [e1, e2, show ds i + 1 - fs i = (ds i - fs i) + 1 by omega, Nat.mul_succ]
          omega
  · intro y hy hj
    have h4 : z ≠ y := by have := hj qn (by omega); rw [up_s] at this; exact this
    rw [ud_n (Ne.symm h4)]
    exact hB y hy (fun j h => by have := hj j (by omega); rw [o h] at this; exact this)
  · intro j k hj hk e
    rcases Nat.lt_or_ge j qn with h | h
    · rcases Nat.lt_or_ge k qn with h5 | h5
      · rw [o h, o h5] at e; exact hC j k h h5 e
      · have : k = qn := by omega
        subst this
        rw [o h, up_s] at e
        exact absurd e (hn j h)
    · have : j = qn := by omega
      subst this
      rcases Nat.lt_or_ge k j with h5 | h5
      · rw [o h5, up_s] at e
        exact absurd e.symm (hn k h5)
      · omega
  · rw [o h3, o h3]; exact hD
  · intro k hk j hij hj
    have e1 : ∀ k, k < qn → ds k ≤ ds i + 1 := fun k h => hE k h i (Nat.le_refl _) hi
    rcases Nat.lt_or_ge j qn with h | h
    · rw [o h]
      rcases Nat.lt_or_ge k qn with h5 | h5
      · rw [o h5]; exact hE k h5 j hij h
      · have : k = qn := by omega
        subst this
        rw [up_s]
        have := hF i j hij h
        omega
    · have : j = qn := by omega
      subst this
      rw [up_s]
      rcases Nat.lt_or_ge k j with h5 | h5
      · rw [o h5]
        have := e1 k h5
        omega
      · have : k = j := by omega
        subst this
        rw [up_s]
        omega
  · intro j k hjk hk
    rcases Nat.lt_or_ge k qn with h5 | h5
    · rw [o h5, o (show j < qn by omega)]; exact hF j k hjk h5
    · have : k = qn := by omega
      subst this
      rw [up_s]
      rcases Nat.lt_or_ge j k with h | h
      · rw [o h]; exact hE j h i (Nat.le_refl _) hi
      · have : j = k := by omega
        subst this
        rw [up_s]
        exact Nat.le_refl _
  · intro j hj w hw
    rw [o (show j < qn by omega)] at hw
    obtain ⟨k, k1, k2, k3⟩ := hG j hj w hw
    exact ⟨k, by omega, by rw [o k1]; exact k2, by rw [o k1, o (show j < qn by omega)]; exact k3⟩
/-- one year is gone through: both that come next stand in the queue -/
theorem BJ_step {a u v qn i : Nat} {S W Q : Nat → Int32} {ys ds fs : Nat → Nat} (H : BJ a u v qn i S W Q ys ds fs) (hi : i < qn) (h1 : ∀ z, nxt u v (ys i) z → ∃ k, k < qn ∧ ys k = z) : BJ a u v qn (i + 1) S W Q ys ds fs := by
  obtain ⟨⟨g1, g2, g3⟩, hA, hB, hC, hD, hE, hF, hG⟩ := H
  refine ⟨⟨g1, by omega, g3⟩, hA, hB, hC, hD, fun k hk j hij hj => hE k hk j (by omega) hj, hF, fun j hj z hz => ?_⟩
  rcases Nat.lt_or_ge j i with h | h
  · exact hG j h z hz
  · have : j = i := by omega
    subst this
    obtain ⟨k, k1, k2⟩ := h1 z hz
    exact ⟨k, k1, k2, hE k k1 j (Nat.le_refl _) hi⟩
theorem BJ_end {a u v qn : Nat} {S W Q : Nat → Int32} {ys ds fs : Nat → Nat} (ha : a < 100) (H : BJ a u v qn qn S W Q ys ds fs) {b : Nat} (hb : b < 100) : BKr a u v b (S b) (W b) := by
  obtain ⟨⟨g1, g2, g3⟩, hA, hB, hC, hD, hE, hF, hG⟩ := H
  have key : ∀ n y, rch a u v n y = true → ∃ k, k < qn ∧ ys k = y ∧ ds k ≤ n := by
    intro n
    induction n with
    | zero =>
      intro y hy
      have : y = a := of_decide_eq_true hy
      exact ⟨0, g3, by rw [hD.1, this], by rw [hD.2]; exact Nat.le_refl _⟩
    | succ n ih =>
      intro y hy
      obtain ⟨z, z1, z2, z3⟩ := rch_inv ha hy
      obtain ⟨j, j1, j2, j3⟩ := ih z z1
      subst j2
      obtain ⟨k, k1, k2, k3⟩ := hG j j1 y z3
      exact ⟨k, k1, k2, by omega⟩
  by_cases hx : ∃ k, k < qn ∧ ys k = b
  · obtain ⟨k, k1, rfl⟩ := hx
    obtain ⟨a1, a2, a3, a4, a5, a6, a7, a8⟩ := hA k k1
    refine Or.inl ⟨ds k, fs k, a3, a4, by omega, a6, fun n hn => ?_, a7, a8⟩
    obtain ⟨j, j1, j2, j3⟩ := key n _ hn
    have := hC j k j1 k1 j2
    subst this
    exact j3
  · refine Or.inr ⟨hB b hb (fun j hj e => hx ⟨j, hj, e⟩), fun n => ?_⟩
    cases h : rch a u v n b with
    | false => rfl
    | true =>
      obtain ⟨k, k1, k2, -⟩ := key n b h
      exact absurd ⟨k, k1, k2⟩ hx
