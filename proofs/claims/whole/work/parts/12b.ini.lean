/-! the constructors: run once by the kernel, with a cell in the script's place that nothing can touch; then with any script -/
def dd : Cel := .inr (.inr (0, fun _ => none))
section FR
variable {c : Cel} {h : List Cel}
theorem fr_g {a : Nat} : (dd :: h)[a + 1]? = (c :: h)[a + 1]? := rfl
theorem vB_no {i : Int32} : ¬ vB i 0 = true := by
  unfold vB
  intro z
  rw [Bool.not_eq_true', Bool.or_eq_false_iff, decide_eq_false_iff_not, decide_eq_false_iff_not] at z
  exact z.2 (Nat.zero_le _)
theorem fr_gF {a ci k : Nat} {v : Value} (hq : gF (dd :: h) a ci k = some v) : gF (c :: h) a ci k = some v := by
  cases a with
  | zero => exact absurd hq (by unfold gF dd; exact fun z => by cases z)
  | succ a => exact hq
theorem fr_gA {a : Nat} {i x : Int32} (hq : gA (dd :: h) a i = some x) : gA (c :: h) a i = some x := by
  cases a with
  | zero => exact absurd hq (by unfold gA dd; exact fun z => by cases z)
  | succ a => exact hq
theorem fr_gZ {a : Nat} {i x : Int32} (hq : gZ (dd :: h) a i = some x) : gZ (c :: h) a i = some x := by
  cases a with
  | zero => exact absurd hq (by unfold gZ dd; exact fun z => by cases z)
  | succ a => exact hq
theorem fr_gQ {a : Nat} {i : Int32} {x : Value} (hq : gQ (dd :: h) a i = some x) : gQ (c :: h) a i = some x := by
  cases a with
  | zero =>
    unfold gQ dd at hq
    rw [show ((.inr (.inr (0, fun _ => none)) : Cel) :: h)[0]? = some (.inr (.inr (0, fun _ => none))) from rfl] at hq
    dsimp only at hq
    rw [if_neg vB_no] at hq
    cases hq
  | succ a => exact hq
theorem fr_gL {a : Nat} {x : Int32} (hq : gL (dd :: h) a = some x) : False := by
  unfold gL at hq
  split at hq
  · unfold dd at hq
    cases hq
  · cases hq
theorem fr_set {a : Nat} {x : Cel} : (dd :: h).set (a + 1) x = dd :: h.set a x ∧ (c :: h).set (a + 1) x = c :: h.set a x := ⟨rfl, rfl⟩
theorem fr_pF {a ci k : Nat} {v : Value} {x : List Cel} (hq : pF (dd :: h) a ci k v = some x) : ∃ h', x = dd :: h' ∧ pF (c :: h) a ci k v = some (c :: h') := by
  cases a with
  | zero => exact absurd hq (by unfold pF dd; exact fun z => by cases z)
  | succ a =>
    unfold pF at hq ⊢
    rw [show (dd :: h)[a + 1]? = h[a]? from rfl] at hq
    rw [show (c :: h)[a + 1]? = h[a]? from rfl]
    split at hq
    · rename_i e
      split at hq
      · rename_i g
        cases hq
        refine ⟨_, rfl, ?_⟩
        try dsimp only
        rw [if_pos g]
        rfl
      · cases hq
    · cases hq
theorem fr_pA {a : Nat} {i v : Int32} {x : List Cel} (hq : pA (dd :: h) a i v = some x) : ∃ h', x = dd :: h' ∧ pA (c :: h) a i v = some (c :: h') := by
  cases a with
  | zero => exact absurd hq (by unfold pA dd; exact fun z => by cases z)
  | succ a =>
    unfold pA at hq ⊢
    rw [show (dd :: h)[a + 1]? = h[a]? from rfl] at hq
    rw [show (c :: h)[a + 1]? = h[a]? from rfl]
    split at hq
    · rename_i e
      split at hq
      · rename_i g
        cases hq
        refine ⟨_, rfl, ?_⟩
        try dsimp only
        rw [if_pos g]
        rfl
      · cases hq
    · cases hq
theorem fr_pZ {a : Nat} {i v : Int32} {x : List Cel} (hq : pZ (dd :: h) a i v = some x) : ∃ h', x = dd :: h' ∧ pZ (c :: h) a i v = some (c :: h') := by
  cases a with
  | zero => exact absurd hq (by unfold pZ dd; exact fun z => by cases z)
  | succ a =>
    unfold pZ at hq ⊢
    rw [show (dd :: h)[a + 1]? = h[a]? from rfl] at hq
    rw [show (c :: h)[a + 1]? = h[a]? from rfl]
    split at hq
    · rename_i e
      split at hq
      · rename_i g
        cases hq
        refine ⟨_, rfl, ?_⟩
        try dsimp only
        rw [if_pos g]
        rfl
      · cases hq
    · cases hq
theorem fr_pQ {a p : Nat} {i : Int32} {x : List Cel} (hq : pQ (dd :: h) a i p = some x) : ∃ h', x = dd :: h' ∧ pQ (c :: h) a i p = some (c :: h') := by
  cases p with
  | zero =>
    unfold pQ at hq
    rw [show (dd :: h)[0]? = some (.inr (.inr (0, fun _ => none))) from rfl] at hq
    split at hq
    · rename_i e1 e2
      cases e2
    · cases hq
  | succ p =>
    cases a with
    | zero =>
      unfold pQ at hq
      rw [show (dd :: h)[0]? = some (.inr (.inr (0, fun _ => none))) from rfl] at hq
      split at hq
      · rename_i e1 e2
        cases e1
        rw [if_neg vB_no] at hq
        cases hq
      · cases hq
    | succ a =>
      unfold pQ at hq ⊢
      rw [show (dd :: h)[a + 1]? = h[a]? from rfl, show (dd :: h)[p + 1]? = h[p]? from rfl] at hq
      rw [show (c :: h)[a + 1]? = h[a]? from rfl, show (c :: h)[p + 1]? = h[p]? from rfl]
      split at hq
      · rename_i e1 e2
        split at hq
        · rename_i g
          cases hq
          refine ⟨_, rfl, ?_⟩
          try dsimp only
          rw [if_pos g]
          rfl
        · cases hq
      · cases hq
def Fr (c : Cel) (h : List Cel) (o : List Cel → Option Cfg) : Prop := ∀ q, o (dd :: h) = some q → ∃ h', q.2.2.2 = dd :: h' ∧ o (c :: h) = some (q.1, q.2.1, q.2.2.1, c :: h')
theorem Fr_i {o : List Cel → Option Cfg} (ho : ∀ h1 h2 q, o h1 = some q → q.2.2.2 = h1 ∧ o h2 = some (q.1, q.2.1, q.2.2.1, h2)) : Fr c h o := fun q hq => ⟨h, (ho _ (c :: h) q hq).1, (ho _ (c :: h) q hq).2⟩
end FR
section FR2
variable {c : Cel} {h : List Cel} {a b pc : Nat} {cc : Int} {ls st : List Value}
theorem Fr_16 : Fr c h (o_16 a b cc pc ls st) := Fr_i fun h1 h2 q hq => by
  unfold o_16 at *
  split at hq
  · split at hq
    · cases hq
    · rename_i g
      cases hq
      exact ⟨rfl, if_neg g⟩
  · cases hq
theorem Fr_17 : Fr c h (o_17 a b cc pc ls st) := Fr_i fun h1 h2 q hq => by
  unfold o_17 at *
  split at hq
  · split at hq
    · cases hq
    · rename_i g
      cases hq
      exact ⟨rfl, if_neg g⟩
  · cases hq
theorem Fr_26 : Fr c h (o_26 a b cc pc ls st) := Fr_i fun h1 h2 q hq => by
  unfold o_26 at *
  split at hq
  · split at hq
    · rename_i g
      cases hq
      exact ⟨rfl, if_pos g⟩
    · cases hq
  · cases hq
theorem Fr_27 : Fr c h (o_27 a b cc pc ls st) := Fr_i fun h1 h2 q hq => by
  unfold o_27 at *
  split at hq
  · split at hq
    · rename_i g
      cases hq
      exact ⟨rfl, if_pos g⟩
    · cases hq
  · cases hq
theorem Fr_28 : Fr c h (o_28 a b cc pc ls st) := Fr_i fun h1 h2 q hq => by
  unfold o_28 at *
  split at hq
  · split at hq
    · rename_i g
      cases hq
      exact ⟨rfl, if_pos g⟩
    · cases hq
  · cases hq
theorem Fr_48 : Fr c h (o_48 a b cc pc ls st) := Fr_i fun h1 h2 q hq => by
  unfold o_48 at *
  split at hq
  · split at hq
    · rename_i g
      cases hq
      exact ⟨rfl, if_pos g⟩
    · cases hq
  · cases hq
theorem Fr_49 : Fr c h (o_49 a b cc pc ls st) := Fr_i fun h1 h2 q hq => by
  unfold o_49 at *
  split at hq
  · split at hq
    · rename_i g
      cases hq
      exact ⟨rfl, if_pos g⟩
    · cases hq
  · split at hq
    · rename_i g
      cases hq
      exact ⟨rfl, if_pos g⟩
    · cases hq
  · split at hq
    · rename_i g
      cases hq
      exact ⟨rfl, if_pos g⟩
    · cases hq
  · cases hq
theorem Fr_bin {f : Int32 → Int32 → Int32} : Fr c h (bin f pc ls st) := Fr_i fun h1 h2 q hq => by
  unfold bin at *
  split at hq
  · cases hq; exact ⟨rfl, rfl⟩
  · cases hq
theorem Fr_36 : Fr c h (o_36 a b cc pc ls st) := fun q hq => by
  unfold o_36 at *
  split at hq
  · obtain ⟨v, g1, g2⟩ := Option.bind_eq_some_iff.mp hq
    cases g2
    exact ⟨h, rfl, Option.bind_eq_some_iff.mpr ⟨v, fr_gF g1, rfl⟩⟩
  · cases hq
theorem Fr_37 : Fr c h (o_37 a b cc pc ls st) := fun q hq => by
  unfold o_37 at *
  split at hq
  · obtain ⟨v, g1, g2⟩ := Option.bind_eq_some_iff.mp hq
    cases g2
    obtain ⟨h', e1, e2⟩ := fr_pF (c := c) g1
    exact ⟨h', e1, Option.bind_eq_some_iff.mpr ⟨_, e2, rfl⟩⟩
  · cases hq
theorem Fr_38 : Fr c h (o_38 a b cc pc ls st) := fun q hq => by
  unfold o_38 at *
  split at hq
  · obtain ⟨v, g1, g2⟩ := Option.bind_eq_some_iff.mp hq
    cases g2
    exact ⟨h, rfl, Option.bind_eq_some_iff.mpr ⟨v, fr_gA g1, rfl⟩⟩
  · cases hq
theorem Fr_40 : Fr c h (o_40 a b cc pc ls st) := fun q hq => by
  unfold o_40 at *
  split at hq
  · obtain ⟨v, g1, g2⟩ := Option.bind_eq_some_iff.mp hq
    cases g2
    exact ⟨h, rfl, Option.bind_eq_some_iff.mpr ⟨v, fr_gZ g1, rfl⟩⟩
  · cases hq
theorem Fr_42 : Fr c h (o_42 a b cc pc ls st) := fun q hq => by
  unfold o_42 at *
  split at hq
  · obtain ⟨v, g1, g2⟩ := Option.bind_eq_some_iff.mp hq
    cases g2
    exact ⟨h, rfl, Option.bind_eq_some_iff.mpr ⟨v, fr_gQ g1, rfl⟩⟩
  · cases hq
theorem Fr_39 : Fr c h (o_39 a b cc pc ls st) := fun q hq => by
  unfold o_39 at *
  split at hq
  · obtain ⟨v, g1, g2⟩ := Option.bind_eq_some_iff.mp hq
    cases g2
    obtain ⟨h', e1, e2⟩ := fr_pA (c := c) g1
    exact ⟨h', e1, Option.bind_eq_some_iff.mpr ⟨_, e2, rfl⟩⟩
  · cases hq
theorem Fr_41 : Fr c h (o_41 a b cc pc ls st) := fun q hq => by
  unfold o_41 at *
  split at hq
  · obtain ⟨v, g1, g2⟩ := Option.bind_eq_some_iff.mp hq
    cases g2
    obtain ⟨h', e1, e2⟩ := fr_pZ (c := c) g1
    exact ⟨h', e1, Option.bind_eq_some_iff.mpr ⟨_, e2, rfl⟩⟩
  · cases hq
theorem Fr_43 : Fr c h (o_43 a b cc pc ls st) := fun q hq => by
  unfold o_43 at *
  split at hq
  · obtain ⟨v, g1, g2⟩ := Option.bind_eq_some_iff.mp hq
    cases g2
    obtain ⟨h', e1, e2⟩ := fr_pQ (c := c) g1
    exact ⟨h', e1, Option.bind_eq_some_iff.mpr ⟨_, e2, rfl⟩⟩
  · cases hq
theorem Fr_44 : Fr c h (o_44 a b cc pc ls st) := fun q hq => by
  unfold o_44 at *
  split at hq
  · obtain ⟨v, g1, g2⟩ := Option.bind_eq_some_iff.mp hq
    exact (fr_gL g1).elim
  · cases hq
theorem Fr_45 : Fr c h (o_45 a b cc pc ls st) := fun q hq => by
  unfold o_45 at *
  split at hq
  · split at hq
    · cases hq
    · rename_i g
      cases hq
      exact ⟨_, rfl, if_neg g⟩
  · cases hq
theorem Fr_46 : Fr c h (o_46 a b cc pc ls st) := fun q hq => by
  unfold o_46 at *
  split at hq
  · split at hq
    · cases hq
    · rename_i g
      cases hq
      exact ⟨_, rfl, if_neg g⟩
  · cases hq
theorem Fr_s {o : Nat → Nat → Int → Nat → List Value → List Value → List Cel → Option Cfg} (ho : ∀ a b cc pc ls st h1 h2 q, o a b cc pc ls st h1 = some q → q.2.2.2 = h1 ∧ o a b cc pc ls st h2 = some (q.1, q.2.1, q.2.2.1, h2)) : Fr c h (o a b cc pc ls st) := Fr_i (ho a b cc pc ls st)
theorem stp_fr {op : Nat} : Fr c h (stp op a b cc pc ls st) := by
  intro q hq
  unfold stp at hq ⊢
  split at hq
  all_goals first
    | exact Fr_16 q hq
    | exact Fr_17 q hq
    | exact Fr_26 q hq
    | exact Fr_27 q hq
    | exact Fr_28 q hq
    | exact Fr_48 q hq
    | exact Fr_49 q hq
    | exact Fr_36 q hq
    | exact Fr_37 q hq
    | exact Fr_38 q hq
    | exact Fr_39 q hq
    | exact Fr_40 q hq
    | exact Fr_41 q hq
    | exact Fr_42 q hq
    | exact Fr_43 q hq
    | exact Fr_44 q hq
    | exact Fr_45 q hq
    | exact Fr_46 q hq
    | exact Fr_bin q hq
    | (cases hq; exact ⟨_, rfl, rfl⟩)
    | (unfold lod at hq ⊢; split at hq; (cases hq; exact ⟨_, rfl, rfl⟩); cases hq)
    | (unfold loa at hq ⊢; split at hq; (cases hq; exact ⟨_, rfl, rfl⟩); cases hq)
    | (unfold sto at hq ⊢; split at hq; (cases hq; exact ⟨_, rfl, rfl⟩); cases hq)
    | (unfold o_11 at hq ⊢; split at hq; (cases hq; exact ⟨_, rfl, rfl⟩); cases hq)
    | (unfold o_12 at hq ⊢; split at hq; (cases hq; exact ⟨_, rfl, rfl⟩); cases hq)
    | (unfold o_18 at hq ⊢; split at hq; (cases hq; exact ⟨_, rfl, rfl⟩); cases hq)
    | (unfold o_24 at hq ⊢; split at hq; (cases hq; exact ⟨_, rfl, rfl⟩); cases hq)
    | (unfold o_25 at hq ⊢; split at hq; (cases hq; exact ⟨_, rfl, rfl⟩); cases hq)
    | (unfold o_29 at hq ⊢; split at hq; (cases hq; exact ⟨_, rfl, rfl⟩); cases hq)
    | (unfold o_30 at hq ⊢; split at hq; (cases hq; exact ⟨_, rfl, rfl⟩); cases hq)
    | (unfold o_32 at hq ⊢; split at hq; (cases hq; exact ⟨_, rfl, rfl⟩); cases hq)
    | (unfold o_33 at hq ⊢; split at hq; (cases hq; exact ⟨_, rfl, rfl⟩); cases hq)
    | (unfold o_34 at hq ⊢; split at hq; (cases hq; exact ⟨_, rfl, rfl⟩); cases hq)
    | (unfold o_35 at hq ⊢; split at hq; (cases hq; exact ⟨_, rfl, rfl⟩); cases hq)
    | cases hq
theorem cgo_fr {op k : Nat} (hq : cgo op k st (dd :: h) = true) : cgo op k st (c :: h) = true := by
  unfold cgo at hq ⊢
  rw [Bool.and_eq_true] at hq ⊢
  refine ⟨hq.1, ?_⟩
  have h2 := hq.2
  rw [Bool.or_eq_true] at h2 ⊢
  rcases h2 with h2 | h2
  · exact Or.inl h2
  · refine Or.inr ?_
    split at h2
    · rename_i i _ e
      rw [Bool.or_eq_true] at h2 ⊢
      rcases h2 with h2 | h2
      · exact Or.inl h2
      · refine Or.inr ?_
        cases i with
        | zero =>
          rw [show (dd :: h)[0]? = some (.inr (.inr (0, fun _ => none))) from rfl] at h2
          cases h2
        | succ i => exact h2
    · cases h2
theorem rtn_fr {op mid : Nat} {x : Res} (hq : rtn op mid st (dd :: h) = some x) : x.1 = dd :: h ∧ rtn op mid st (c :: h) = some (c :: h, x.2) := by
  unfold rtn at hq ⊢
  split at hq
  · split at hq
    · rename_i g
      cases hq
      exact ⟨rfl, if_pos g⟩
    · cases hq
  · split at hq
    · rename_i g
      cases hq
      exact ⟨rfl, if_pos g⟩
    · cases hq
  · split at hq
    · rename_i g
      cases hq
      exact ⟨rfl, if_pos g⟩
    · cases hq
  · cases hq
end FR2
theorem exec_fr {c : Cel} : ∀ (n mid pc : Nat) (ls st : List Value) (h : List Cel) (x : Res), exec n mid pc ls st (dd :: h) = some x → ∃ h', x.1 = dd :: h' ∧ exec n mid pc ls st (c :: h) = some (c :: h', x.2) := by
  intro n
  induction n with
  | zero => intro mid pc ls st h x hx; cases hx
  | succ n ih =>
    intro mid pc ls st h x hx
    unfold exec at hx ⊢
    split at hx
    · cases hx
    · rename_i op a b cc hf
      try dsimp only at hx ⊢
      split at hx
      · rename_i g
        rw [if_pos g]
        obtain ⟨q, g1, g2⟩ := Option.bind_eq_some_iff.mp hx
        obtain ⟨h', e1, e2⟩ := stp_fr (c := c) q g1
        rw [e1] at g2
        obtain ⟨h2, f1, f2⟩ := ih _ _ _ _ _ _ g2
        exact ⟨h2, f1, Option.bind_eq_some_iff.mpr ⟨_, e2, f2⟩⟩
      · rename_i g
        rw [if_neg g]
        split at hx
        · rename_i g2
          rw [if_pos g2]
          split at hx
          · rename_i g3
            rw [if_pos (cgo_fr (c := c) g3)]
            obtain ⟨q, g4, g5⟩ := Option.bind_eq_some_iff.mp hx
            obtain ⟨h', e1, e2⟩ := ih _ _ _ _ _ _ g4
            rw [e1] at g5
            obtain ⟨h2, f1, f2⟩ := ih _ _ _ _ _ _ g5
            exact ⟨h2, f1, Option.bind_eq_some_iff.mpr ⟨_, e2, f2⟩⟩
          · cases hx
        · rename_i g2
          rw [if_neg g2]
          exact ⟨h, (rtn_fr (c := c) hx).1, (rtn_fr (c := c) hx).2⟩

/-- the class as it is made, and the model behind it -/
def hp1 : List Cel := match exec 4000 53 0 [.ref 1, .float 0] [] [dd, .inl (6, dfl 6)] with
  | some (h, none) => h
  | _ => []
def hp2 : List Cel := match exec 4000 103 0 [.ref 56] [] (hp1 ++ [.inl (7, dfl 7)]) with
  | some (h, none) => h
  | _ => []
def prI (c : Option Cel) (k : Nat) : Int32 := match c with
  | some (.inl (_, fs)) => (match fs[k]? with
    | some (.int x) => x
    | _ => 0)
  | _ => 0
def prF (c : Option Cel) : Nat → Int32 := match c with
  | some (.inr (.inl (_, _, f))) => f
  | _ => fun _ => 0
def prQ (c : Option Cel) : Nat → Option Nat := match c with
  | some (.inr (.inr (_, g))) => g
  | _ => fun _ => none
theorem vB_lt {i : Int32} {n : Nat} (h : vB i n = true) : i.toNatClampNeg < n := by
  unfold vB at h
  rw [Bool.not_eq_true', Bool.or_eq_false_iff, decide_eq_false_iff_not, decide_eq_false_iff_not] at h
  omega
theorem hp_len : hp1.length = 56 ∧ hp2.length = 73 := by decide +kernel
theorem hp_r : (∀ j, j < 10 → prQ hp2[22]? j = some (23 + 2 * j)) ∧ (∀ j, j < 2 → prQ hp2[43]? j = some (52 + 2 * j)) := by decide +kernel
