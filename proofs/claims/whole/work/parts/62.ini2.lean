/-! the systems as they are made -/
noncomputable def I00 : Nat → Nat → Int32 := fun a k => prI hp2[a]? k
noncomputable def F00 (F : Nat → Int32) : Nat → Nat → Int32 := fun a => if a = 0 then F else prF hp2[a]?
def J00 : Nat → Int64 := fun _ => 0
theorem mk_i {L : Nat} {F : Nat → Int32} {i : Nat} (h1 : 1 ≤ i) (hi : i < 73) : mkC L false true i (I00 i) (F00 F i) (J00 i) = (shapeL hp2).getD i dd ∧ ceF ((shapeL hp2).getD i dd) hp2[i]? := by
  rcases Nat.lt_succ_iff_lt_or_eq.mp hi with hi | hi
  rotate_left
  · subst hi
    exact ⟨rfl, rfl⟩
  rcases Nat.lt_succ_iff_lt_or_eq.mp hi with hi | hi
  rotate_left
  · subst hi
    exact ⟨rfl, rfl⟩
  rcases Nat.lt_succ_iff_lt_or_eq.mp hi with hi | hi
  rotate_left
  · subst hi
    exact ⟨rfl, rfl⟩
  rcases Nat.lt_succ_iff_lt_or_eq.mp hi with hi | hi
  rotate_left
  · subst hi
    exact ⟨rfl, rfl⟩
  rcases Nat.lt_succ_iff_lt_or_eq.mp hi with hi | hi
  rotate_left
  · subst hi
    exact ⟨rfl, rfl⟩
  rcases Nat.lt_succ_iff_lt_or_eq.mp hi with hi | hi
  rotate_left
  · subst hi
    exact ⟨rfl, rfl⟩
  rcases Nat.lt_succ_iff_lt_or_eq.mp hi with hi | hi
  rotate_left
  · subst hi
    exact ⟨rfl, rfl⟩
  rcases Nat.lt_succ_iff_lt_or_eq.mp hi with hi | hi
  rotate_left
  · subst hi
    exact ⟨rfl, rfl⟩
  rcases Nat.lt_succ_iff_lt_or_eq.mp hi with hi | hi
  rotate_left
  · subst hi
    exact ⟨rfl, rfl⟩
  rcases Nat.lt_succ_iff_lt_or_eq.mp hi with hi | hi
  rotate_left
  · subst hi
    exact ⟨rfl, rfl⟩
  rcases Nat.lt_succ_iff_lt_or_eq.mp hi with hi | hi
  rotate_left
  · subst hi
    exact ⟨rfl, rfl⟩
  rcases Nat.lt_succ_iff_lt_or_eq.mp hi with hi | hi
  rotate_left
  · subst hi
    exact ⟨rfl, rfl⟩
  rcases Nat.lt_succ_iff_lt_or_eq.mp hi with hi | hi
  rotate_left
  · subst hi
    exact ⟨rfl, rfl⟩
  rcases Nat.lt_succ_iff_lt_or_eq.mp hi with hi | hi
  rotate_left
  · subst hi
    exact ⟨rfl, rfl⟩
  rcases Nat.lt_succ_iff_lt_or_eq.mp hi with hi | hi
  rotate_left
  · subst hi
    exact ⟨rfl, rfl⟩
  rcases Nat.lt_succ_iff_lt_or_eq.mp hi with hi | hi
  rotate_left
  · subst hi
    exact ⟨rfl, rfl⟩
  rcases Nat.lt_succ_iff_lt_or_eq.mp hi with hi | hi
  rotate_left
  · subst hi
    exact ⟨rfl, trivial⟩
  rcases Nat.lt_succ_iff_lt_or_eq.mp hi with hi | hi
  rotate_left
  · subst hi
    exact ⟨rfl, rfl⟩
  rcases Nat.lt_succ_iff_lt_or_eq.mp hi with hi | hi
  rotate_left
  · subst hi
    exact ⟨rfl, trivial⟩
  rcases Nat.lt_succ_iff_lt_or_eq.mp hi with hi | hi
  rotate_left
  · subst hi
    exact ⟨rfl, rfl⟩
  rcases Nat.lt_succ_iff_lt_or_eq.mp hi with hi | hi
  rotate_left
  · subst hi
    exact ⟨rfl, trivial⟩
  rcases Nat.lt_succ_iff_lt_or_eq.mp hi with hi | hi
  rotate_left
  · subst hi
    exact ⟨rfl, rfl⟩
  rcases Nat.lt_succ_iff_lt_or_eq.mp hi with hi | hi
  rotate_left
  · subst hi
    exact ⟨rfl, rfl⟩
  rcases Nat.lt_succ_iff_lt_or_eq.mp hi with hi | hi
  rotate_left
  · subst hi
    exact ⟨rfl, rfl⟩
  rcases Nat.lt_succ_iff_lt_or_eq.mp hi with hi | hi
  rotate_left
  · subst hi
    exact ⟨rfl, trivial⟩
  rcases Nat.lt_succ_iff_lt_or_eq.mp hi with hi | hi
  rotate_left
  · subst hi
    exact ⟨rfl, rfl⟩
  rcases Nat.lt_succ_iff_lt_or_eq.mp hi with hi | hi
  rotate_left
  · subst hi
    exact ⟨rfl, rfl⟩
  rcases Nat.lt_succ_iff_lt_or_eq.mp hi with hi | hi
  rotate_left
  · subst hi
    exact ⟨rfl, trivial⟩
  rcases Nat.lt_succ_iff_lt_or_eq.mp hi with hi | hi
  rotate_left
  · subst hi
    exact ⟨rfl, rfl⟩
  rcases Nat.lt_succ_iff_lt_or_eq.mp hi with hi | hi
  rotate_left
  · subst hi
    exact ⟨rfl, rfl⟩
  rcases Nat.lt_succ_iff_lt_or_eq.mp hi with hi | hi
  rotate_left
  · subst hi
    exact ⟨rfl, rfl⟩
  rcases Nat.lt_succ_iff_lt_or_eq.mp hi with hi | hi
  rotate_left
  · subst hi
    exact ⟨rfl, trivial⟩
  rcases Nat.lt_succ_iff_lt_or_eq.mp hi with hi | hi
  rotate_left
  · subst hi
    exact ⟨rfl, rfl⟩
  rcases Nat.lt_succ_iff_lt_or_eq.mp hi with hi | hi
  rotate_left
  · subst hi
    exact ⟨rfl, trivial⟩
  rcases Nat.lt_succ_iff_lt_or_eq.mp hi with hi | hi
  rotate_left
  · subst hi
    exact ⟨rfl, rfl⟩
  rcases Nat.lt_succ_iff_lt_or_eq.mp hi with hi | hi
  rotate_left
  · subst hi
    exact ⟨rfl, trivial⟩
  rcases Nat.lt_succ_iff_lt_or_eq.mp hi with hi | hi
  rotate_left
  · subst hi
    exact ⟨rfl, rfl⟩
  rcases Nat.lt_succ_iff_lt_or_eq.mp hi with hi | hi
  rotate_left
  · subst hi
    exact ⟨rfl, trivial⟩
  rcases Nat.lt_succ_iff_lt_or_eq.mp hi with hi | hi
  rotate_left
  · subst hi
    exact ⟨rfl, rfl⟩
  rcases Nat.lt_succ_iff_lt_or_eq.mp hi with hi | hi
  rotate_left
  · subst hi
    exact ⟨rfl, trivial⟩
  rcases Nat.lt_succ_iff_lt_or_eq.mp hi with hi | hi
  rotate_left
  · subst hi
    exact ⟨rfl, rfl⟩
  rcases Nat.lt_succ_iff_lt_or_eq.mp hi with hi | hi
  rotate_left
  · subst hi
    exact ⟨rfl, trivial⟩
  rcases Nat.lt_succ_iff_lt_or_eq.mp hi with hi | hi
  rotate_left
  · subst hi
    exact ⟨rfl, rfl⟩
  rcases Nat.lt_succ_iff_lt_or_eq.mp hi with hi | hi
  rotate_left
  · subst hi
    exact ⟨rfl, trivial⟩
  rcases Nat.lt_succ_iff_lt_or_eq.mp hi with hi | hi
  rotate_left
  · subst hi
    exact ⟨rfl, rfl⟩
  rcases Nat.lt_succ_iff_lt_or_eq.mp hi with hi | hi
  rotate_left
  · subst hi
    exact ⟨rfl, trivial⟩
  rcases Nat.lt_succ_iff_lt_or_eq.mp hi with hi | hi
  rotate_left
  · subst hi
    exact ⟨rfl, rfl⟩
  rcases Nat.lt_succ_iff_lt_or_eq.mp hi with hi | hi
  rotate_left
  · subst hi
    exact ⟨rfl, trivial⟩
  rcases Nat.lt_succ_iff_lt_or_eq.mp hi with hi | hi
  rotate_left
  · subst hi
    exact ⟨rfl, rfl⟩
  rcases Nat.lt_succ_iff_lt_or_eq.mp hi with hi | hi
  rotate_left
  · subst hi
    exact ⟨rfl, trivial⟩
  rcases Nat.lt_succ_iff_lt_or_eq.mp hi with hi | hi
  rotate_left
  · subst hi
    exact ⟨rfl, rfl⟩
  rcases Nat.lt_succ_iff_lt_or_eq.mp hi with hi | hi
  rotate_left
  · subst hi
    exact ⟨rfl, trivial⟩
  rcases Nat.lt_succ_iff_lt_or_eq.mp hi with hi | hi
  rotate_left
  · subst hi
    exact ⟨rfl, rfl⟩
  rcases Nat.lt_succ_iff_lt_or_eq.mp hi with hi | hi
  rotate_left
  · subst hi
    exact ⟨rfl, trivial⟩
  rcases Nat.lt_succ_iff_lt_or_eq.mp hi with hi | hi
  rotate_left
  · subst hi
    exact ⟨rfl, rfl⟩
  rcases Nat.lt_succ_iff_lt_or_eq.mp hi with hi | hi
  rotate_left
  · subst hi
    exact ⟨rfl, rfl⟩
  rcases Nat.lt_succ_iff_lt_or_eq.mp hi with hi | hi
  rotate_left
  · subst hi
    exact ⟨rfl, rfl⟩
  rcases Nat.lt_succ_iff_lt_or_eq.mp hi with hi | hi
  rotate_left
  · subst hi
    exact ⟨rfl, rfl⟩
  rcases Nat.lt_succ_iff_lt_or_eq.mp hi with hi | hi
  rotate_left
  · subst hi
    exact ⟨rfl, rfl⟩
  rcases Nat.lt_succ_iff_lt_or_eq.mp hi with hi | hi
  rotate_left
  · subst hi
    exact ⟨rfl, rfl⟩
  rcases Nat.lt_succ_iff_lt_or_eq.mp hi with hi | hi
  rotate_left
  · subst hi
    exact ⟨rfl, trivial⟩
  rcases Nat.lt_succ_iff_lt_or_eq.mp hi with hi | hi
  rotate_left
  · subst hi
    exact ⟨rfl, rfl⟩
  rcases Nat.lt_succ_iff_lt_or_eq.mp hi with hi | hi
  rotate_left
  · subst hi
    exact ⟨rfl, rfl⟩
  rcases Nat.lt_succ_iff_lt_or_eq.mp hi with hi | hi
  rotate_left
  · subst hi
    exact ⟨rfl, rfl⟩
  rcases Nat.lt_succ_iff_lt_or_eq.mp hi with hi | hi
  rotate_left
  · subst hi
    exact ⟨rfl, rfl⟩
  rcases Nat.lt_succ_iff_lt_or_eq.mp hi with hi | hi
  rotate_left
  · subst hi
    exact ⟨rfl, rfl⟩
  rcases Nat.lt_succ_iff_lt_or_eq.mp hi with hi | hi
  rotate_left
  · subst hi
    exact ⟨rfl, rfl⟩
  rcases Nat.lt_succ_iff_lt_or_eq.mp hi with hi | hi
  rotate_left
  · subst hi
    exact ⟨rfl, trivial⟩
  rcases Nat.lt_succ_iff_lt_or_eq.mp hi with hi | hi
  rotate_left
  · subst hi
    exact ⟨rfl, rfl⟩
  rcases Nat.lt_succ_iff_lt_or_eq.mp hi with hi | hi
  rotate_left
  · subst hi
    exact ⟨rfl, rfl⟩
  rcases Nat.lt_succ_iff_lt_or_eq.mp hi with hi | hi
  rotate_left
  · subst hi
    exact ⟨rfl, trivial⟩
  rcases Nat.lt_succ_iff_lt_or_eq.mp hi with hi | hi
  rotate_left
  · subst hi
    exact ⟨rfl, trivial⟩
  omega
theorem R_00 {F : Nat → Int32} : R false I00 (F00 F) J00 := by
  obtain ⟨⟨v1, v2, v3, v4, v5, v6, v7⟩, ⟨w1, w2, w3, w4⟩, x1, x2, x3, ⟨y1, y2, y3, y4, y5⟩, z⟩ := hp_p.2.2.2.2.2
  refine ⟨s00, ⟨0, fun _ => 0, v1, v2, by omega, fun j hj => absurd hj (Nat.not_lt_zero j)⟩, ⟨⟨⟨v3, v4, v5, v6, v7⟩, fun j hj => absurd hj (Nat.not_lt_zero j), fun j hj => absurd hj (Nat.not_lt_zero j), fun j hj => absurd hj (Nat.not_lt_zero j)⟩, Gd_00, ⟨w1, w2, w3, w4⟩, fun j hj => absurd hj (Nat.not_lt_zero j), fun j hj => absurd hj (Nat.not_lt_zero j), fun j hj => absurd hj (Nat.not_lt_zero j)⟩, BE_0 (fun q hq => x1 q (by omega)) (fun q hq => ?_) (fun q hq => ?_), ⟨0, 0, y1, by omega, y2, by omega, y3, fun j hj => absurd hj (Nat.not_lt_zero j)⟩, fun a ha => ?_, ⟨0, y5, y4, by omega, fun j hj => absurd hj (Nat.not_lt_zero j)⟩, rfl⟩
  · unfold F00
    rw [if_neg (by decide)]
    exact x2 q (by omega)
  · unfold F00
    rw [if_neg (by decide)]
    exact x3 q hq
  · have e1 : F00 F 44 a = 0 := by
      unfold F00
      rw [if_neg (by decide)]
      exact (z a ha).1
    have e2 : F00 F 67 a = 0 := by
      unfold F00
      rw [if_neg (by decide)]
      exact (z a ha).2
    rw [e1, e2]
    exact ⟨rfl, Or.inl rfl, fun h => absurd rfl h⟩
theorem hp_mk {L : Nat} {F : Nat → Int32} {t : List Cel} (h : hp2 = dd :: t) : (.inr (.inl (2, L, F)) : Cel) :: t = mk L false true I00 (F00 F) J00 := by
  apply List.ext_getElem?
  intro i
  have hl : t.length = 72 := by
    have := hp_len.2
    rw [h, List.length_cons] at this
    omega
  cases i with
  | zero =>
    rw [mk_get (by decide)]
    rfl
  | succ i =>
    rw [List.getElem?_cons_succ]
    by_cases hi : i < 72
    · have e : t[i]? = hp2[i + 1]? := by rw [h, List.getElem?_cons_succ]
      obtain ⟨m1, m2⟩ := mk_i (L := L) (F := F) (i := i + 1) (by omega) (by omega)
      rw [mk_get (by omega), m1, e]
      exact ceB_e (hp_p.2.2.2.2.1 i hi) m2
    · rw [List.getElem?_eq_none (by omega), List.getElem?_eq_none (by rw [mk_len]; omega)]
/-- from the law's first row to its loop -/
theorem law_st {L : Nat} {F : Nat → Int32} : EX 159 0 [.ref 0, .float 0, .float 0, .float 0] [] [.inr (.inl (2, L, F))] = EX 159 18 [.ref 0, .ref 1, .ref 56, .int (nI 0)] [] (mk L false true I00 (F00 F) J00) := by
  have e1 : exec 4000 53 0 [.ref 1, .float 0] [] [dd, .inl (6, dfl 6)] = some (hp1, none) := hp_run.1
  have e2 : exec 4000 103 0 [.ref 56] [] (hp1 ++ [.inl (7, dfl 7)]) = some (hp2, none) := hp_run.2.1
  obtain ⟨t1, f1, g1⟩ := exec_fr (c := .inr (.inl (2, L, F))) _ _ _ _ _ _ _ e1
  have f1 : hp1 = dd :: t1 := f1
  rw [f1, List.cons_append] at e2
  obtain ⟨t2, f2, g2⟩ := exec_fr (c := .inr (.inl (2, L, F))) _ _ _ _ _ _ _ e2
  have f2 : hp2 = dd :: t2 := f2
  have k1 := EX_iff.mpr ⟨_, g1⟩
  have k2 := EX_iff.mpr ⟨_, g2⟩
  have hl : t1.length = 55 := by
    have := hp_len.1
    rw [f1, List.length_cons] at this
    omega
  have hl2 : ((.inr (.inl (2, L, F)) : Cel) :: t1).length = 56 := by rw [List.length_cons, hl]
  rw [← hp_mk f2]
  have s0 : EX 159 0 [.ref 0, .float 0, .float 0, .float 0] [] [.inr (.inl (2, L, F))] = EX 159 3 [.ref 0, .float 0, .float 0, .float 0] [.ref 1] [.inr (.inl (2, L, F)), .inl (6, dfl 6)] := e_47 (by decide +kernel : fetch 159 0 = some (47, 7, 6, 0))
  have s3 := q159_3 (.ref 0) (.float 0) (.float 0) (.float 0) 1 [.inr (.inl (2, L, F)), .inl (6, dfl 6)]
  have s4 := q159_4 (.ref 0) (.float 0) (.float 0) (.float 0) 1 1 [.inr (.inl (2, L, F)), .inl (6, dfl 6)]
  rw [k1, bd_s] at s4
  dsimp only at s4
  rw [pv_n] at s4
  have s7 := q159_7 (.ref 0) (.float 0) (.float 0) (.float 0) 1 (.inr (.inl (2, L, F)) :: t1)
  have s8 : EX 159 8 [.ref 0, .ref 1, .float 0, .float 0] [] (.inr (.inl (2, L, F)) :: t1) = EX 159 11 [.ref 0, .ref 1, .float 0, .float 0] [.ref 56] (.inr (.inl (2, L, F)) :: (t1 ++ [.inl (7, dfl 7)])) := by
    have := e_47 (mid := 159) (pc := 8) (ls := [.ref 0, .ref 1, .float 0, .float 0]) (st := []) (h := .inr (.inl (2, L, F)) :: t1) (by decide +kernel : fetch 159 8 = some (47, 10, 7, 0))
    rw [hl2, List.cons_append] at this
    exact this
  have s11 := q159_11 (.ref 0) (.ref 1) (.float 0) (.float 0) 56 (.inr (.inl (2, L, F)) :: (t1 ++ [.inl (7, dfl 7)]))
  have s12 := q159_12 (.ref 0) (.ref 1) (.float 0) (.float 0) 56 56 (.inr (.inl (2, L, F)) :: (t1 ++ [.inl (7, dfl 7)]))
  rw [k2, bd_s] at s12
  dsimp only at s12
  rw [pv_n] at s12
  have s15 := q159_15 (.ref 0) (.ref 1) (.float 0) (.float 0) 56 (.inr (.inl (2, L, F)) :: t2)
  have s16 := q159_16 (.ref 0) (.ref 1) (.ref 56) (.float 0) (.inr (.inl (2, L, F)) :: t2)
  have s17 := q159_17 (.ref 0) (.ref 1) (.ref 56) (.float 0) 0 (.inr (.inl (2, L, F)) :: t2)
  exact s0.trans (s3.trans (s4.trans (s7.trans (s8.trans (s11.trans (s12.trans (s15.trans (s16.trans s17))))))))
/-- the law of any script -/
theorem law_all {L : Nat} {F : Nat → Int32} (hL : L ≤ 384) : ∃ (n : Nat) (u : Bool) (I F' : Nat → Nat → Int32) (J : Nat → Int64), exec n 159 0 [.ref 0, .float 0, .float 0, .float 0] [] [.inr (.inl (2, L, F))] = some (mk L u (!u) I F' J, some (.int 1)) := by
  obtain ⟨u, I, F', J, h⟩ := law_l hL 70 0 false I00 (F00 F) J00 (by omega) (by omega) R_00
  obtain ⟨n, hn⟩ := EX_iff.mp (law_st.trans h)
  exact ⟨n, u, I, F', J, hn⟩
theorem csz_mk {L : Nat} {u v : Bool} {I F : Nat → Nat → Int32} {J : Nat → Int64} : sl (mk L u v I F J) ≤ L + 72 * 150 := by
  have h : ∀ i, 1 ≤ i → i < 73 → csz (mkC L u v i (I i) (F i) (J i)) ≤ 150 := by
    intro i h1 hi
    rcases Nat.lt_succ_iff_lt_or_eq.mp hi with hi | hi
    rotate_left
    · subst hi
      exact Nat.le_of_ble_eq_true rfl
    rcases Nat.lt_succ_iff_lt_or_eq.mp hi with hi | hi
    rotate_left
    · subst hi
      exact Nat.le_of_ble_eq_true rfl
    rcases Nat.lt_succ_iff_lt_or_eq.mp hi with hi | hi
    rotate_left
    · subst hi
      exact Nat.le_of_ble_eq_true rfl
    rcases Nat.lt_succ_iff_lt_or_eq.mp hi with hi | hi
    rotate_left
    · subst hi
      exact Nat.le_of_ble_eq_true rfl
    rcases Nat.lt_succ_iff_lt_or_eq.mp hi with hi | hi
    rotate_left
    · subst hi
      exact Nat.le_of_ble_eq_true rfl
    rcases Nat.lt_succ_iff_lt_or_eq.mp hi with hi | hi
    rotate_left
    · subst hi
      exact Nat.le_of_ble_eq_true rfl
    rcases Nat.lt_succ_iff_lt_or_eq.mp hi with hi | hi
    rotate_left
    · subst hi
      exact Nat.le_of_ble_eq_true rfl
    rcases Nat.lt_succ_iff_lt_or_eq.mp hi with hi | hi
    rotate_left
    · subst hi
      exact Nat.le_of_ble_eq_true rfl
    rcases Nat.lt_succ_iff_lt_or_eq.mp hi with hi | hi
    rotate_left
    · subst hi
      exact Nat.le_of_ble_eq_true rfl
    rcases Nat.lt_succ_iff_lt_or_eq.mp hi with hi | hi
    rotate_left
    · subst hi
      exact Nat.le_of_ble_eq_true rfl
    rcases Nat.lt_succ_iff_lt_or_eq.mp hi with hi | hi
    rotate_left
    · subst hi
      exact Nat.le_of_ble_eq_true rfl
    rcases Nat.lt_succ_iff_lt_or_eq.mp hi with hi | hi
    rotate_left
    · subst hi
      exact Nat.le_of_ble_eq_true rfl
    rcases Nat.lt_succ_iff_lt_or_eq.mp hi with hi | hi
    rotate_left
    · subst hi
      exact Nat.le_of_ble_eq_true rfl
    rcases Nat.lt_succ_iff_lt_or_eq.mp hi with hi | hi
    rotate_left
    · subst hi
      exact Nat.le_of_ble_eq_true rfl
    rcases Nat.lt_succ_iff_lt_or_eq.mp hi with hi | hi
    rotate_left
    · subst hi
      exact Nat.le_of_ble_eq_true rfl
    rcases Nat.lt_succ_iff_lt_or_eq.mp hi with hi | hi
    rotate_left
    · subst hi
      exact Nat.le_of_ble_eq_true rfl
    rcases Nat.lt_succ_iff_lt_or_eq.mp hi with hi | hi
    rotate_left
    · subst hi
      exact Nat.le_of_ble_eq_true rfl
    rcases Nat.lt_succ_iff_lt_or_eq.mp hi with hi | hi
    rotate_left
    · subst hi
      exact Nat.le_of_ble_eq_true rfl
    rcases Nat.lt_succ_iff_lt_or_eq.mp hi with hi | hi
    rotate_left
    · subst hi
      exact Nat.le_of_ble_eq_true rfl
    rcases Nat.lt_succ_iff_lt_or_eq.mp hi with hi | hi
    rotate_left
    · subst hi
      exact Nat.le_of_ble_eq_true rfl
    rcases Nat.lt_succ_iff_lt_or_eq.mp hi with hi | hi
    rotate_left
    · subst hi
      exact Nat.le_of_ble_eq_true rfl
    rcases Nat.lt_succ_iff_lt_or_eq.mp hi with hi | hi
    rotate_left
    · subst hi
      exact Nat.le_of_ble_eq_true rfl
    rcases Nat.lt_succ_iff_lt_or_eq.mp hi with hi | hi
    rotate_left
    · subst hi
      exact Nat.le_of_ble_eq_true rfl
    rcases Nat.lt_succ_iff_lt_or_eq.mp hi with hi | hi
    rotate_left
    · subst hi
      exact Nat.le_of_ble_eq_true rfl
    rcases Nat.lt_succ_iff_lt_or_eq.mp hi with hi | hi
    rotate_left
    · subst hi
      exact Nat.le_of_ble_eq_true rfl
    rcases Nat.lt_succ_iff_lt_or_eq.mp hi with hi | hi
    rotate_left
    · subst hi
      exact Nat.le_of_ble_eq_true rfl
    rcases Nat.lt_succ_iff_lt_or_eq.mp hi with hi | hi
    rotate_left
    · subst hi
      exact Nat.le_of_ble_eq_true rfl
    rcases Nat.lt_succ_iff_lt_or_eq.mp hi with hi | hi
    rotate_left
    · subst hi
      exact Nat.le_of_ble_eq_true rfl
    rcases Nat.lt_succ_iff_lt_or_eq.mp hi with hi | hi
    rotate_left
    · subst hi
      exact Nat.le_of_ble_eq_true rfl
    rcases Nat.lt_succ_iff_lt_or_eq.mp hi with hi | hi
    rotate_left
    · subst hi
      exact Nat.le_of_ble_eq_true rfl
    rcases Nat.lt_succ_iff_lt_or_eq.mp hi with hi | hi
    rotate_left
    · subst hi
      exact Nat.le_of_ble_eq_true rfl
    rcases Nat.lt_succ_iff_lt_or_eq.mp hi with hi | hi
    rotate_left
    · subst hi
      exact Nat.le_of_ble_eq_true rfl
    rcases Nat.lt_succ_iff_lt_or_eq.mp hi with hi | hi
    rotate_left
    · subst hi
      exact Nat.le_of_ble_eq_true rfl
    rcases Nat.lt_succ_iff_lt_or_eq.mp hi with hi | hi
    rotate_left
    · subst hi
      exact Nat.le_of_ble_eq_true rfl
    rcases Nat.lt_succ_iff_lt_or_eq.mp hi with hi | hi
    rotate_left
    · subst hi
      exact Nat.le_of_ble_eq_true rfl
    rcases Nat.lt_succ_iff_lt_or_eq.mp hi with hi | hi
    rotate_left
    · subst hi
      exact Nat.le_of_ble_eq_true rfl
    rcases Nat.lt_succ_iff_lt_or_eq.mp hi with hi | hi
    rotate_left
    · subst hi
      exact Nat.le_of_ble_eq_true rfl
    rcases Nat.lt_succ_iff_lt_or_eq.mp hi with hi | hi
    rotate_left
    · subst hi
      exact Nat.le_of_ble_eq_true rfl
    rcases Nat.lt_succ_iff_lt_or_eq.mp hi with hi | hi
    rotate_left
    · subst hi
      exact Nat.le_of_ble_eq_true rfl
    rcases Nat.lt_succ_iff_lt_or_eq.mp hi with hi | hi
    rotate_left
    · subst hi
      exact Nat.le_of_ble_eq_true rfl
    rcases Nat.lt_succ_iff_lt_or_eq.mp hi with hi | hi
    rotate_left
    · subst hi
      exact Nat.le_of_ble_eq_true rfl
    rcases Nat.lt_succ_iff_lt_or_eq.mp hi with hi | hi
    rotate_left
    · subst hi
      exact Nat.le_of_ble_eq_true rfl
    rcases Nat.lt_succ_iff_lt_or_eq.mp hi with hi | hi
    rotate_left
    · subst hi
      exact Nat.le_of_ble_eq_true rfl
    rcases Nat.lt_succ_iff_lt_or_eq.mp hi with hi | hi
    rotate_left
    · subst hi
      exact Nat.le_of_ble_eq_true rfl
    rcases Nat.lt_succ_iff_lt_or_eq.mp hi with hi | hi
    rotate_left
    · subst hi
      exact Nat.le_of_ble_eq_true rfl
    rcases Nat.lt_succ_iff_lt_or_eq.mp hi with hi | hi
    rotate_left
    · subst hi
      exact Nat.le_of_ble_eq_true rfl
    rcases Nat.lt_succ_iff_lt_or_eq.mp hi with hi | hi
    rotate_left
    · subst hi
      exact Nat.le_of_ble_eq_true rfl
    rcases Nat.lt_succ_iff_lt_or_eq.mp hi with hi | hi
    rotate_left
    · subst hi
      exact Nat.le_of_ble_eq_true rfl
    rcases Nat.lt_succ_iff_lt_or_eq.mp hi with hi | hi
    rotate_left
    · subst hi
      exact Nat.le_of_ble_eq_true rfl
    rcases Nat.lt_succ_iff_lt_or_eq.mp hi with hi | hi
    rotate_left
    · subst hi
      exact Nat.le_of_ble_eq_true rfl
    rcases Nat.lt_succ_iff_lt_or_eq.mp hi with hi | hi
    rotate_left
    · subst hi
      exact Nat.le_of_ble_eq_true rfl
    rcases Nat.lt_succ_iff_lt_or_eq.mp hi with hi | hi
    rotate_left
    · subst hi
      exact Nat.le_of_ble_eq_true rfl
    rcases Nat.lt_succ_iff_lt_or_eq.mp hi with hi | hi
    rotate_left
    · subst hi
      exact Nat.le_of_ble_eq_true rfl
    rcases Nat.lt_succ_iff_lt_or_eq.mp hi with hi | hi
    rotate_left
    · subst hi
      exact Nat.le_of_ble_eq_true rfl
    rcases Nat.lt_succ_iff_lt_or_eq.mp hi with hi | hi
    rotate_left
    · subst hi
      exact Nat.le_of_ble_eq_true rfl
    rcases Nat.lt_succ_iff_lt_or_eq.mp hi with hi | hi
    rotate_left
    · subst hi
      exact Nat.le_of_ble_eq_true rfl
    rcases Nat.lt_succ_iff_lt_or_eq.mp hi with hi | hi
    rotate_left
    · subst hi
      exact Nat.le_of_ble_eq_true rfl
    rcases Nat.lt_succ_iff_lt_or_eq.mp hi with hi | hi
    rotate_left
    · subst hi
      exact Nat.le_of_ble_eq_true rfl
    rcases Nat.lt_succ_iff_lt_or_eq.mp hi with hi | hi
    rotate_left
    · subst hi
      exact Nat.le_of_ble_eq_true rfl
    rcases Nat.lt_succ_iff_lt_or_eq.mp hi with hi | hi
    rotate_left
    · subst hi
      exact Nat.le_of_ble_eq_true rfl
    rcases Nat.lt_succ_iff_lt_or_eq.mp hi with hi | hi
    rotate_left
    · subst hi
      exact Nat.le_of_ble_eq_true rfl
    rcases Nat.lt_succ_iff_lt_or_eq.mp hi with hi | hi
    rotate_left
    · subst hi
      exact Nat.le_of_ble_eq_true rfl
    rcases Nat.lt_succ_iff_lt_or_eq.mp hi with hi | hi
    rotate_left
    · subst hi
      exact Nat.le_of_ble_eq_true rfl
    rcases Nat.lt_succ_iff_lt_or_eq.mp hi with hi | hi
    rotate_left
    · subst hi
      exact Nat.le_of_ble_eq_true rfl
    rcases Nat.lt_succ_iff_lt_or_eq.mp hi with hi | hi
    rotate_left
    · subst hi
      exact Nat.le_of_ble_eq_true rfl
    rcases Nat.lt_succ_iff_lt_or_eq.mp hi with hi | hi
    rotate_left
    · subst hi
      exact Nat.le_of_ble_eq_true rfl
    rcases Nat.lt_succ_iff_lt_or_eq.mp hi with hi | hi
    rotate_left
    · subst hi
      exact Nat.le_of_ble_eq_true rfl
    rcases Nat.lt_succ_iff_lt_or_eq.mp hi with hi | hi
    rotate_left
    · subst hi
      exact Nat.le_of_ble_eq_true rfl
    rcases Nat.lt_succ_iff_lt_or_eq.mp hi with hi | hi
    rotate_left
    · subst hi
      exact Nat.le_of_ble_eq_true rfl
    rcases Nat.lt_succ_iff_lt_or_eq.mp hi with hi | hi
    rotate_left
    · subst hi
      exact Nat.le_of_ble_eq_true rfl
    rcases Nat.lt_succ_iff_lt_or_eq.mp hi with hi | hi
    rotate_left
    · subst hi
      exact Nat.le_of_ble_eq_true rfl
    rcases Nat.lt_succ_iff_lt_or_eq.mp hi with hi | hi
    rotate_left
    · subst hi
      exact Nat.le_of_ble_eq_true rfl
    omega
  have g : ∀ k, k ≤ 73 → (((List.range k).map fun i => mkC L u v i (I i) (F i) (J i)).map csz).sum ≤ L + 150 * (k - 1) := by
    intro k
    induction k with
    | zero => exact fun _ => Nat.zero_le _
    | succ k ih =>
      intro hk
      have a := ih (by omega)
      rw [List.range_succ, List.map_append, List.map_append, List.sum_append]
      cases k with
      | zero =>
        show 0 + (csz (mkC L u v 0 (I 0) (F 0) (J 0)) + 0) ≤ L + 150 * 0
        have : csz (mkC L u v 0 (I 0) (F 0) (J 0)) = L := rfl
        omega
      | succ k =>
        have b := h (k + 1) (by omega) (by omega)
        show _ + (csz (mkC L u v (k + 1) (I (k + 1)) (F (k + 1)) (J (k + 1))) + 0) ≤ _
        omega
  have := g 73 (Nat.le_refl _)
  unfold sl mk
  omega
