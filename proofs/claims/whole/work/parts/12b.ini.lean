/-! the constructors: run once by the kernel, with a cell in the script's place that nothing can touch; then with any script -/
def dd : Cel := .inr (.inr (0, fun _ => none))
section FR
variable {c : Cel} {h : List Cel}
theorem fr_g {a : Nat} : (dd :: h)[a + 1]? = (c :: h)[a + 1]? := rfl
theorem vB_no {i : Int32} : ¬ vB i 0 = true := by
  unfold vB
  intro z
  rw [Bool.not_eq_true', Bool.or_eq_false_iff, decide_eq_false_iff_not, decide_eq_false_iff_not] at z
  exact z.2 (Nat.zero_le _)
theorem fr_gF {a ci k : Nat} {v : Value} (hq : gF (dd :: h) a ci k = some v) : gF (c :: h) a ci k = some v := by
  cases a with
  | zero => exact absurd hq (by unfold gF dd; exact fun z => by cases z)
  | succ a => exact hq
theorem fr_gA {a : Nat} {i x : Int32} (hq : gA (dd :: h) a i = some x) : gA (c :: h) a i = some x := by
  cases a with
  | zero => exact absurd hq (by unfold gA dd; exact fun z => by cases z)
  | succ a => exact hq
theorem fr_gZ {a : Nat} {i x : Int32} (hq : gZ (dd :: h) a i = some x) : gZ (c :: h) a i = some x := by
  cases a with
  | zero => exact absurd hq (by unfold gZ dd; exact fun z => by cases z)
  | succ a => exact hq
theorem fr_gQ {a : Nat} {i : Int32} {x : Value} (hq : gQ (dd :: h) a i = some x) : gQ (c :: h) a i = some x := by
  cases a with
  | zero =>
    unfold gQ dd at hq
    rw [show ((.inr (.inr (0, fun _ => none)) : Cel) :: h)[0]? = some (.inr (.inr (0, fun _ => none))) from rfl] at hq
    dsimp only at hq
    rw [if_neg vB_no] at hq
    cases hq
  | succ a => exact hq
theorem fr_gL {a : Nat} {x : Int32} (hq : gL (dd :: h) a = some x) : False := by
  unfold gL at hq
  split at hq
  · unfold dd at hq
    cases hq
  · cases hq
theorem fr_set {a : Nat} {x : Cel} : (dd :: h).set (a + 1) x = dd :: h.set a x ∧ (c :: h).set (a + 1) x = c :: h.set a x := ⟨rfl, rfl⟩
theorem fr_pF {a ci k : Nat} {v : Value} {x : List Cel} (hq : pF (dd :: h) a ci k v = some x) : ∃ h', x = dd :: h' ∧ pF (c :: h) a ci k v = some (c :: h') := by
  cases a with
  | zero => exact absurd hq (by unfold pF dd; exact fun z => by cases z)
  | succ a =>
    unfold pF at hq ⊢
    rw [show (dd :: h)[a + 1]? = h[a]? from rfl] at hq
    rw [show (c :: h)[a + 1]? = h[a]? from rfl]
    split at hq
    · rename_i e
      split at hq
      · rename_i g
        cases hq
        refine ⟨_, rfl, ?_⟩
        try dsimp only
        rw [if_pos g]
        rfl
      · cases hq
    · cases hq
theorem fr_pA {a : Nat} {i v : Int32} {x : List Cel} (hq : pA (dd :: h) a i v = some x) : ∃ h', x = dd :: h' ∧ pA (c :: h) a i v = some (c :: h') := by
  cases a with
  | zero => exact absurd hq (by unfold pA dd; exact fun z => by cases z)
  | succ a =>
    unfold pA at hq ⊢
    rw [show (dd :: h)[a + 1]? = h[a]? from rfl] at hq
    rw [show (c :: h)[a + 1]? = h[a]? from rfl]
    split at hq
    · rename_i e
      split at hq
      · rename_i g
        cases hq
        refine ⟨_, rfl, ?_⟩
        try dsimp only
        rw [if_pos g]
        rfl
      · cases hq
    · cases hq
theorem fr_pZ {a : Nat} {i v : Int32} {x : List Cel} (hq : pZ (dd :: h) a i v = some x) : ∃ h', x = dd :: h' ∧ pZ (c :: h) a i v = some (c :: h') := by
  cases a with
  | zero => exact absurd hq (by unfold pZ dd; exact fun z => by cases z)
  | succ a =>
    unfold pZ at hq ⊢
    rw [show (dd :: h)[a + 1]? = h[a]? from rfl] at hq
    rw [show (c :: h)[a + 1]? = h[a]? from rfl]
    split at hq
    · rename_i e
      split at hq
      · rename_i g
        cases hq
        refine ⟨_, rfl, ?_⟩
        try dsimp only
        rw [if_pos g]
        rfl
      · cases hq
    · cases hq
theorem fr_pQ {a p : Nat} {i : Int32} {x : List Cel} (hq : pQ (dd :: h) a i p = some x) : ∃ h', x = dd :: h' ∧ pQ (c :: h) a i p = some (c :: h') := by
  cases p with
  | zero =>
    unfold pQ at hq
    rw [show (dd :: h)[0]? = some (.inr (.inr (0, fun _ => none))) from rfl] at hq
    split at hq
    · rename_i e1 e2
      cases e2
    · cases hq
  | succ p =>
    cases a with
    | zero =>
      unfold pQ at hq
      rw [show (dd :: h)[0]? = some (.inr (.inr (0, fun _ => none))) from rfl] at hq
      split at hq
      · rename_i e1 e2
        cases e1
        rw [if_neg vB_no] at hq
        cases hq
      · cases hq
    | succ a =>
      unfold pQ at hq ⊢
      rw [show (dd :: h)[a + 1]? = h[a]? from rfl, show (dd :: h)[p + 1]? = h[p]? from rfl] at hq
      rw [show (c :: h)[a + 1]? = h[a]? from rfl, show (c :: h)[p + 1]? = h[p]? from rfl]
      split at hq
      · rename_i e1 e2
        split at hq
        · rename_i g
          cases hq
          refine ⟨_, rfl, ?_⟩
          try dsimp only
          rw [if_pos g]
          rfl
        · cases hq
      · cases hq
def Fr (c : Cel) (h : List Cel) (o : List Cel → Option Cfg) : Prop := ∀ q, o (dd :: h) = some q → ∃ h', q.2.2.2 = dd :: h' ∧ o (c :: h) = some (q.1, q.2.1, q.2.2.1, c :: h')
theorem Fr_i {o : List Cel → Option Cfg} (ho : ∀ h1 h2 q, o h1 = some q → q.2.2.2 = h1 ∧ o h2 = some (q.1, q.2.1, q.2.2.1, h2)) : Fr c h o := fun q hq => ⟨h, (ho _ (c :: h) q hq).1, (ho _ (c :: h) q hq).2⟩
end FR
section FR2
variable {c : Cel} {h : List Cel} {a b pc : Nat} {cc : Int} {ls st : List Value}
theorem Fr_16 : Fr c h (o_16 a b cc pc ls st) := Fr_i fun h1 h2 q hq => by
  unfold o_16 at *
  split at hq
  · split at hq
    · cases hq
    · rename_i g
      cases hq
      exact ⟨rfl, if_neg g⟩
  · cases hq
theorem Fr_17 : Fr c h (o_17 a b cc pc ls st) := Fr_i fun h1 h2 q hq => by
  unfold o_17 at *
  split at hq
  · split at hq
    · cases hq
    · rename_i g
      cases hq
      exact ⟨rfl, if_neg g⟩
  · cases hq
theorem Fr_26 : Fr c h (o_26 a b cc pc ls st) := Fr_i fun h1 h2 q hq => by
  unfold o_26 at *
  split at hq
  · split at hq
    · rename_i g
      cases hq
      exact ⟨rfl, if_pos g⟩
    · cases hq
  · cases hq
theorem Fr_27 : Fr c h (o_27 a b cc pc ls st) := Fr_i fun h1 h2 q hq => by
  unfold o_27 at *
  split at hq
  · split at hq
    · rename_i g
      cases hq
      exact ⟨rfl, if_pos g⟩
    · cases hq
  · cases hq
theorem Fr_28 : Fr c h (o_28 a b cc pc ls st) := Fr_i fun h1 h2 q hq => by
  unfold o_28 at *
  split at hq
  · split at hq
    · rename_i g
      cases hq
      exact ⟨rfl, if_pos g⟩
    · cases hq
  · cases hq
theorem Fr_48 : Fr c h (o_48 a b cc pc ls st) := Fr_i fun h1 h2 q hq => by
  unfold o_48 at *
  split at hq
  · split at hq
    · rename_i g
      cases hq
      exact ⟨rfl, if_pos g⟩
    · cases hq
  · cases hq
theorem Fr_49 : Fr c h (o_49 a b cc pc ls st) := Fr_i fun h1 h2 q hq => by
  unfold o_49 at *
  split at hq
  · split at hq
    · rename_i g
      cases hq
      exact ⟨rfl, if_pos g⟩
    · cases hq
  · split at hq
    · rename_i g
      cases hq
      exact ⟨rfl, if_pos g⟩
    · cases hq
  · split at hq
    · rename_i g
      cases hq
      exact ⟨rfl, if_pos g⟩
    · cases hq
  · cases hq
theorem Fr_bin {f : Int32 → Int32 → Int32} : Fr c h (bin f pc ls st) := Fr_i fun h1 h2 q hq => by
  unfold bin at *
  split at hq
  · cases hq; exact ⟨rfl, rfl⟩
  · cases hq
theorem Fr_36 : Fr c h (o_36 a b cc pc ls st) := fun q hq => by
  unfold o_36 at *
  split at hq
  · obtain ⟨v, g1, g2⟩ := Option.bind_eq_some_iff.mp hq
    cases g2
    exact ⟨h, rfl, Option.bind_eq_some_iff.mpr ⟨v, fr_gF g1, rfl⟩⟩
  · cases hq
theorem Fr_37 : Fr c h (o_37 a b cc pc ls st) := fun q hq => by
  unfold o_37 at *
  split at hq
  · obtain ⟨v, g1, g2⟩ := Option.bind_eq_some_iff.mp hq
    cases g2
    obtain ⟨h', e1, e2⟩ := fr_pF (c := c) g1
    exact ⟨h', e1, Option.bind_eq_some_iff.mpr ⟨_, e2, rfl⟩⟩
  · cases hq
theorem Fr_38 : Fr c h (o_38 a b cc pc ls st) := fun q hq => by
  unfold o_38 at *
  split at hq
  · obtain ⟨v, g1, g2⟩ := Option.bind_eq_some_iff.mp hq
    cases g2
    exact ⟨h, rfl, Option.bind_eq_some_iff.mpr ⟨v, fr_gA g1, rfl⟩⟩
  · cases hq
theorem Fr_40 : Fr c h (o_40 a b cc pc ls st) := fun q hq => by
  unfold o_40 at *
  split at hq
  · obtain ⟨v, g1, g2⟩ := Option.bind_eq_some_iff.mp hq
    cases g2
    exact ⟨h, rfl, Option.bind_eq_some_iff.mpr ⟨v, fr_gZ g1, rfl⟩⟩
  · cases hq
theorem Fr_42 : Fr c h (o_42 a b cc pc ls st) := fun q hq => by
  unfold o_42 at *
  split at hq
  · obtain ⟨v, g1, g2⟩ := Option.bind_eq_some_iff.mp hq
    cases g2
    exact ⟨h, rfl, Option.bind_eq_some_iff.mpr ⟨v, fr_gQ g1, rfl⟩⟩
  · cases hq
theorem Fr_39 : Fr c h (o_39 a b cc pc ls st) := fun q hq => by
  unfold o_39 at *
  split at hq
  · obtain ⟨v, g1, g2⟩ := Option.bind_eq_some_iff.mp hq
    cases g2
    obtain ⟨h', e1, e2⟩ := fr_pA (c := c) g1
    exact ⟨h', e1, Option.bind_eq_some_iff.mpr ⟨_, e2, rfl⟩⟩
  · cases hq
theorem Fr_41 : Fr c h (o_41 a b cc pc ls st) := fun q hq => by
  unfold o_41 at *
  split at hq
  · obtain ⟨v, g1, g2⟩ := Option.bind_eq_some_iff.mp hq
    cases g2
    obtain ⟨h', e1, e2⟩ := fr_pZ (c := c) g1
    exact ⟨h', e1, Option.bind_eq_some_iff.mpr ⟨_, e2, rfl⟩⟩
  · cases hq
theorem Fr_43 : Fr c h (o_43 a b cc pc ls st) := fun q hq => by
  unfold o_43 at *
  split at hq
  · obtain ⟨v, g1, g2⟩ := Option.bind_eq_some_iff.mp hq
    cases g2
    obtain ⟨h', e1, e2⟩ := fr_pQ (c := c) g1
    exact ⟨h', e1, Option.bind_eq_some_iff.mpr ⟨_, e2, rfl⟩⟩
  · cases hq
theorem Fr_44 : Fr c h (o_44 a b cc pc ls st) := fun q hq => by
  unfold o_44 at *
  split at hq
  · obtain ⟨v, g1, g2⟩ := Option.bind_eq_some_iff.mp hq
    exact (fr_gL g1).elim
  · cases hq
theorem Fr_45 : Fr c h (o_45 a b cc pc ls st) := fun q hq => by
  unfold o_45 at *
  split at hq
  · split at hq
    · cases hq
    · rename_i g
      cases hq
      exact ⟨_, rfl, if_neg g⟩
  · cases hq
theorem Fr_46 : Fr c h (o_46 a b cc pc ls st) := fun q hq => by
  unfold o_46 at *
  split at hq
  · split at hq
    · cases hq
    · rename_i g
      cases hq
      exact ⟨_, rfl, if_neg g⟩
  · cases hq
theorem Fr_s {o : Nat → Nat → Int → Nat → List Value → List Value → List Cel → Option Cfg} (ho : ∀ a b cc pc ls st h1 h2 q, o a b cc pc ls st h1 = some q → q.2.2.2 = h1 ∧ o a b cc pc ls st h2 = some (q.1, q.2.1, q.2.2.1, h2)) : Fr c h (o a b cc pc ls st) := Fr_i (ho a b cc pc ls st)
theorem stp_fr {op : Nat} : Fr c h (stp op a b cc pc ls st) := by
  intro q hq
  unfold stp at hq ⊢
  split at hq
  all_goals first
    | exact Fr_16 q hq
    | exact Fr_17 q hq
    | exact Fr_26 q hq
    | exact Fr_27 q hq
    | exact Fr_28 q hq
    | exact Fr_48 q hq
    | exact Fr_49 q hq
    | exact Fr_36 q hq
    | exact Fr_37 q hq
    | exact Fr_38 q hq
    | exact Fr_39 q hq
    | exact Fr_40 q hq
    | exact Fr_41 q hq
    | exact Fr_42 q hq
    | exact Fr_43 q hq
    | exact Fr_44 q hq
    | exact Fr_45 q hq
    | exact Fr_46 q hq
    | exact Fr_bin q hq
    | (cases hq; exact ⟨_, rfl, rfl⟩)
    | (unfold lod at hq ⊢; split at hq; (cases hq; exact ⟨_, rfl, rfl⟩); cases hq)
    | (unfold loa at hq ⊢; split at hq; (cases hq; exact ⟨_, rfl, rfl⟩); cases hq)
    | (unfold sto at hq ⊢; split at hq; (cases hq; exact ⟨_, rfl, rfl⟩); cases hq)
    | (unfold o_11 at hq ⊢; split at hq; (cases hq; exact ⟨_, rfl, rfl⟩); cases hq)
    | (unfold o_12 at hq ⊢; split at hq; (cases hq; exact ⟨_, rfl, rfl⟩); cases hq)
    | (unfold o_18 at hq ⊢; split at hq; (cases hq; exact ⟨_, rfl, rfl⟩); cases hq)
    | (unfold o_24 at hq ⊢; split at hq; (cases hq; exact ⟨_, rfl, rfl⟩); cases hq)
    | (unfold o_25 at hq ⊢; split at hq; (cases hq; exact ⟨_, rfl, rfl⟩); cases hq)
    | (unfold o_29 at hq ⊢; split at hq; (cases hq; exact ⟨_, rfl, rfl⟩); cases hq)
    | (unfold o_30 at hq ⊢; split at hq; (cases hq; exact ⟨_, rfl, rfl⟩); cases hq)
    | (unfold o_32 at hq ⊢; split at hq; (cases hq; exact ⟨_, rfl, rfl⟩); cases hq)
    | (unfold o_33 at hq ⊢; split at hq; (cases hq; exact ⟨_, rfl, rfl⟩); cases hq)
    | (unfold o_34 at hq ⊢; split at hq; (cases hq; exact ⟨_, rfl, rfl⟩); cases hq)
    | (unfold o_35 at hq ⊢; split at hq; (cases hq; exact ⟨_, rfl, rfl⟩); cases hq)
    | cases hq
theorem cgo_fr {op k : Nat} (hq : cgo op k st (dd :: h) = true) : cgo op k st (c :: h) = true := by
  unfold cgo at hq ⊢
  rw [Bool.and_eq_true] at hq ⊢
  refine ⟨hq.1, ?_⟩
  have h2 := hq.2
  rw [Bool.or_eq_true] at h2 ⊢
  rcases h2 with h2 | h2
  · exact Or.inl h2
  · refine Or.inr ?_
    split at h2
    · rename_i i _ e
      rw [Bool.or_eq_true] at h2 ⊢
      rcases h2 with h2 | h2
      · exact Or.inl h2
      · refine Or.inr ?_
        cases i with
        | zero =>
          rw [show (dd :: h)[0]? = some (.inr (.inr (0, fun _ => none))) from rfl] at h2
          cases h2
        | succ i => exact h2
    · cases h2
theorem rtn_fr {op mid : Nat} {x : Res} (hq : rtn op mid st (dd :: h) = some x) : x.1 = dd :: h ∧ rtn op mid st (c :: h) = some (c :: h, x.2) := by
  unfold rtn at hq ⊢
  split at hq
  · split at hq
    · rename_i g
      cases hq
      exact ⟨rfl, if_pos g⟩
    · cases hq
  · split at hq
    · rename_i g
      cases hq
      exact ⟨rfl, if_pos g⟩
    · cases hq
  · split at hq
    · rename_i g
      cases hq
      exact ⟨rfl, if_pos g⟩
    · cases hq
  · cases hq
end FR2
theorem exec_fr {c : Cel} : ∀ (n mid pc : Nat) (ls st : List Value) (h : List Cel) (x : Res), exec n mid pc ls st (dd :: h) = some x → ∃ h', x.1 = dd :: h' ∧ exec n mid pc ls st (c :: h) = some (c :: h', x.2) := by
  intro n
  induction n with
  | zero => intro mid pc ls st h x hx; cases hx
  | succ n ih =>
    intro mid pc ls st h x hx
    unfold exec at hx ⊢
    split at hx
    · cases hx
    · rename_i op a b cc hf
      try dsimp only at hx ⊢
      split at hx
      · rename_i g
        rw [if_pos g]
        obtain ⟨q, g1, g2⟩ := Option.bind_eq_some_iff.mp hx
        obtain ⟨h', e1, e2⟩ := stp_fr (c := c) q g1
        rw [e1] at g2
        obtain ⟨h2, f1, f2⟩ := ih _ _ _ _ _ _ g2
        exact ⟨h2, f1, Option.bind_eq_some_iff.mpr ⟨_, e2, f2⟩⟩
      · rename_i g
        rw [if_neg g]
        split at hx
        · rename_i g2
          rw [if_pos g2]
          split at hx
          · rename_i g3
            rw [if_pos (cgo_fr (c := c) g3)]
            obtain ⟨q, g4, g5⟩ := Option.bind_eq_some_iff.mp hx
            obtain ⟨h', e1, e2⟩ := ih _ _ _ _ _ _ g4
            rw [e1] at g5
            obtain ⟨h2, f1, f2⟩ := ih _ _ _ _ _ _ g5
            exact ⟨h2, f1, Option.bind_eq_some_iff.mpr ⟨_, e2, f2⟩⟩
          · cases hx
        · rename_i g2
          rw [if_neg g2]
          exact ⟨h, (rtn_fr (c := c) hx).1, (rtn_fr (c := c) hx).2⟩

/-- the class as it is made, and the model behind it -/
def gH (r : Option Res) : List Cel := match r with
  | some (h, none) => h
  | _ => []
def okH (r : Option Res) : Bool := match r with
  | some (_, none) => true
  | _ => false
theorem gH_e {r : Option Res} (h : okH r = true) : r = some (gH r, none) := by
  unfold okH at h
  split at h
  · rfl
  · cases h
def prI (c : Option Cel) (k : Nat) : Int32 := match c with
  | some (.inl (_, fs)) => (match fs[k]? with
    | some (.int x) => x
    | _ => 0)
  | _ => 0
def prF (c : Option Cel) : Nat → Int32 := match c with
  | some (.inr (.inl (_, _, f))) => f
  | _ => fun _ => 0
def prQ (c : Option Cel) : Nat → Option Nat := match c with
  | some (.inr (.inr (_, g))) => g
  | _ => fun _ => none
theorem vB_lt {i : Int32} {n : Nat} (h : vB i n = true) : i.toNatClampNeg < n := by
  unfold vB at h
  rw [Bool.not_eq_true', Bool.or_eq_false_iff, decide_eq_false_iff_not, decide_eq_false_iff_not] at h
  omega
def vlB : Value → Value → Bool
  | .int x, .int y => decide (x = y)
  | .long x, .long y => decide (x = y)
  | .ref x, .ref y => decide (x = y)
  | _, _ => false
theorem vlB_e {x y : Value} (h : vlB x y = true) : x = y := by
  unfold vlB at h
  split at h
  · rw [of_decide_eq_true h]
  · rw [of_decide_eq_true h]
  · rw [of_decide_eq_true h]
  · cases h
def vsB : List Value → List Value → Bool
  | [], [] => true
  | x :: l, y :: r => vlB x y && vsB l r
  | _, _ => false
theorem vsB_e : ∀ {l r : List Value}, vsB l r = true → l = r
  | [], [], _ => rfl
  | x :: l, y :: r, h => by
    rw [vsB, Bool.and_eq_true] at h
    rw [vlB_e h.1, vsB_e h.2]
  | [], _ :: _, h => by cases h
  | _ :: _, [], h => by cases h
/-- is the cell as said, its rows apart -/
def ceB : Cel → Option Cel → Bool
  | .inl (c1, f1), some (.inl (c2, f2)) => decide (c1 = c2) && vsB f1 f2
  | .inr (.inl (k1, n1, _)), some (.inr (.inl (k2, n2, _))) => decide (k1 = k2) && decide (n1 = n2)
  | .inr (.inr (n1, _)), some (.inr (.inr (n2, _))) => decide (n1 = n2)
  | _, _ => false
def ceF : Cel → Option Cel → Prop
  | .inl _, _ => True
  | .inr (.inl (_, _, f)), c => f = prF c
  | .inr (.inr (_, g)), c => g = prQ c
theorem ceB_e {x : Cel} {c : Option Cel} (h : ceB x c = true) (hf : ceF x c) : c = some x := by
  unfold ceB at h
  split at h
  · rw [Bool.and_eq_true] at h
    rw [of_decide_eq_true h.1, vsB_e h.2]
  · rw [Bool.and_eq_true] at h
    rw [of_decide_eq_true h.1, of_decide_eq_true h.2]
    have hf : _ = prF _ := hf
    rw [hf]
    rfl
  · rw [of_decide_eq_true h]
    have hf : _ = prQ _ := hf
    rw [hf]
    rfl
  · cases h
/-- the shape of what is made -/
def shapeL (H : List Cel) : List Cel := [
  .inr (.inl (2, 0, prF H[0]?)),
  .inl (6, [.ref 2, .ref 5, .ref 12, .ref 19, .ref 21, .ref 43, .ref 44, .ref 45, .ref 48, .long 0]),
  .inl (1, [.int (prI H[2]? 0), .ref 3, .ref 4, .int (prI H[2]? 3), .int (prI H[2]? 4)]),
  .inr (.inl (0, 150, prF H[3]?)),
  .inr (.inl (0, 3, prF H[4]?)),
  .inl (3, [.int (prI H[5]? 0), .int (prI H[5]? 1), .int (prI H[5]? 2), .int (prI H[5]? 3), .int (prI H[5]? 4), .ref 6, .ref 7, .ref 8, .ref 9, .ref 10, .ref 11]),
  .inr (.inl (0, 14, prF H[6]?)),
  .inr (.inl (0, 14, prF H[7]?)),
  .inr (.inl (0, 6, prF H[8]?)),
  .inr (.inl (0, 6, prF H[9]?)),
  .inr (.inl (0, 6, prF H[10]?)),
  .inr (.inl (0, 4, prF H[11]?)),
  .inl (3, [.int (prI H[12]? 0), .int (prI H[12]? 1), .int (prI H[12]? 2), .int (prI H[12]? 3), .int (prI H[12]? 4), .ref 13, .ref 14, .ref 15, .ref 16, .ref 17, .ref 18]),
  .inr (.inl (0, 14, prF H[13]?)),
  .inr (.inl (0, 14, prF H[14]?)),
  .inr (.inl (0, 6, prF H[15]?)),
  .inr (.inl (0, 6, prF H[16]?)),
  .inr (.inl (0, 6, prF H[17]?)),
  .inr (.inl (0, 4, prF H[18]?)),
  .inl (0, [.int (prI H[19]? 0), .int (prI H[19]? 1), .int (prI H[19]? 2), .int (prI H[19]? 3), .int (prI H[19]? 4), .int (prI H[19]? 5), .int (prI H[19]? 6), .int (prI H[19]? 7), .int (prI H[19]? 8), .ref 20]),
  .inr (.inl (0, 3, prF H[20]?)),
  .inl (2, [.int (prI H[21]? 0), .int (prI H[21]? 1), .ref 22]),
  .inr (.inr (10, prQ H[22]?)),
  .inl (0, [.int (prI H[23]? 0), .int (prI H[23]? 1), .int (prI H[23]? 2), .int (prI H[23]? 3), .int (prI H[23]? 4), .int (prI H[23]? 5), .int (prI H[23]? 6), .int (prI H[23]? 7), .int (prI H[23]? 8), .ref 24]),
  .inr (.inl (0, 3, prF H[24]?)),
  .inl (0, [.int (prI H[25]? 0), .int (prI H[25]? 1), .int (prI H[25]? 2), .int (prI H[25]? 3), .int (prI H[25]? 4), .int (prI H[25]? 5), .int (prI H[25]? 6), .int (prI H[25]? 7), .int (prI H[25]? 8), .ref 26]),
  .inr (.inl (0, 3, prF H[26]?)),
  .inl (0, [.int (prI H[27]? 0), .int (prI H[27]? 1), .int (prI H[27]? 2), .int (prI H[27]? 3), .int (prI H[27]? 4), .int (prI H[27]? 5), .int (prI H[27]? 6), .int (prI H[27]? 7), .int (prI H[27]? 8), .ref 28]),
  .inr (.inl (0, 3, prF H[28]?)),
  .inl (0, [.int (prI H[29]? 0), .int (prI H[29]? 1), .int (prI H[29]? 2), .int (prI H[29]? 3), .int (prI H[29]? 4), .int (prI H[29]? 5), .int (prI H[29]? 6), .int (prI H[29]? 7), .int (prI H[29]? 8), .ref 30]),
  .inr (.inl (0, 3, prF H[30]?)),
  .inl (0, [.int (prI H[31]? 0), .int (prI H[31]? 1), .int (prI H[31]? 2), .int (prI H[31]? 3), .int (prI H[31]? 4), .int (prI H[31]? 5), .int (prI H[31]? 6), .int (prI H[31]? 7), .int (prI H[31]? 8), .ref 32]),
  .inr (.inl (0, 3, prF H[32]?)),
  .inl (0, [.int (prI H[33]? 0), .int (prI H[33]? 1), .int (prI H[33]? 2), .int (prI H[33]? 3), .int (prI H[33]? 4), .int (prI H[33]? 5), .int (prI H[33]? 6), .int (prI H[33]? 7), .int (prI H[33]? 8), .ref 34]),
  .inr (.inl (0, 3, prF H[34]?)),
  .inl (0, [.int (prI H[35]? 0), .int (prI H[35]? 1), .int (prI H[35]? 2), .int (prI H[35]? 3), .int (prI H[35]? 4), .int (prI H[35]? 5), .int (prI H[35]? 6), .int (prI H[35]? 7), .int (prI H[35]? 8), .ref 36]),
  .inr (.inl (0, 3, prF H[36]?)),
  .inl (0, [.int (prI H[37]? 0), .int (prI H[37]? 1), .int (prI H[37]? 2), .int (prI H[37]? 3), .int (prI H[37]? 4), .int (prI H[37]? 5), .int (prI H[37]? 6), .int (prI H[37]? 7), .int (prI H[37]? 8), .ref 38]),
  .inr (.inl (0, 3, prF H[38]?)),
  .inl (0, [.int (prI H[39]? 0), .int (prI H[39]? 1), .int (prI H[39]? 2), .int (prI H[39]? 3), .int (prI H[39]? 4), .int (prI H[39]? 5), .int (prI H[39]? 6), .int (prI H[39]? 7), .int (prI H[39]? 8), .ref 40]),
  .inr (.inl (0, 3, prF H[40]?)),
  .inl (0, [.int (prI H[41]? 0), .int (prI H[41]? 1), .int (prI H[41]? 2), .int (prI H[41]? 3), .int (prI H[41]? 4), .int (prI H[41]? 5), .int (prI H[41]? 6), .int (prI H[41]? 7), .int (prI H[41]? 8), .ref 42]),
  .inr (.inl (0, 3, prF H[42]?)),
  .inr (.inr (2, prQ H[43]?)),
  .inr (.inl (1, 2, prF H[44]?)),
  .inl (4, [.int (prI H[45]? 0), .ref 46, .ref 47]),
  .inr (.inl (0, 6, prF H[46]?)),
  .inr (.inl (0, 6, prF H[47]?)),
  .inl (5, [.ref 49, .ref 50, .ref 51, .int (prI H[48]? 3)]),
  .inr (.inl (0, 100, prF H[49]?)),
  .inr (.inl (0, 100, prF H[50]?)),
  .inr (.inl (0, 100, prF H[51]?)),
  .inl (0, [.int (prI H[52]? 0), .int (prI H[52]? 1), .int (prI H[52]? 2), .int (prI H[52]? 3), .int (prI H[52]? 4), .int (prI H[52]? 5), .int (prI H[52]? 6), .int (prI H[52]? 7), .int (prI H[52]? 8), .ref 53]),
  .inr (.inl (0, 3, prF H[53]?)),
  .inl (0, [.int (prI H[54]? 0), .int (prI H[54]? 1), .int (prI H[54]? 2), .int (prI H[54]? 3), .int (prI H[54]? 4), .int (prI H[54]? 5), .int (prI H[54]? 6), .int (prI H[54]? 7), .int (prI H[54]? 8), .ref 55]),
  .inr (.inl (0, 3, prF H[55]?)),
  .inl (7, [.int (prI H[56]? 0), .long 0, .ref 57, .int (prI H[56]? 3), .int (prI H[56]? 4), .int (prI H[56]? 5), .int (prI H[56]? 6), .int (prI H[56]? 7), .int (prI H[56]? 8), .ref 58, .int (prI H[56]? 10), .ref 59, .ref 60, .ref 61, .ref 62, .ref 63, .ref 64, .ref 65, .ref 66, .ref 67, .ref 68, .int (prI H[56]? 21), .ref 69, .ref 70, .int (prI H[56]? 24), .ref 71, .ref 72]),
  .inr (.inl (0, 150, prF H[57]?)),
  .inr (.inl (0, 8, prF H[58]?)),
  .inr (.inl (0, 28, prF H[59]?)),
  .inr (.inl (0, 28, prF H[60]?)),
  .inr (.inl (0, 12, prF H[61]?)),
  .inr (.inl (0, 12, prF H[62]?)),
  .inr (.inl (0, 12, prF H[63]?)),
  .inr (.inl (0, 8, prF H[64]?)),
  .inr (.inl (0, 12, prF H[65]?)),
  .inr (.inl (0, 24, prF H[66]?)),
  .inr (.inl (1, 2, prF H[67]?)),
  .inr (.inl (0, 120, prF H[68]?)),
  .inr (.inl (0, 6, prF H[69]?)),
  .inr (.inl (0, 6, prF H[70]?)),
  .inr (.inl (0, 14, prF H[71]?)),
  .inr (.inl (0, 100, prF H[72]?))]
def hq1 : List Cel := gH (exec 4000 53 0 [.ref 1, .float 0] [] [dd, .inl (6, dfl 6)])
def hq2 : List Cel := gH (exec 4000 103 0 [.ref 56] [] (hq1 ++ [.inl (7, dfl 7)]))
def HPp (H1 H : List Cel) : Prop := H1.length = 56 ∧ H.length = 73 ∧ (∀ j, j < 10 → prQ H[22]? j = some (23 + 2 * j)) ∧ (∀ j, j < 2 → prQ H[43]? j = some (52 + 2 * j)) ∧ (∀ i, i < 72 → ceB ((shapeL H).getD (i + 1) dd) H[i + 1]? = true) ∧
  (prI H[2]? 0 = 0 ∧ prI H[56]? 3 = 0 ∧ prI H[5]? 0 = 0 ∧ prI H[5]? 1 = 0 ∧ prI H[5]? 2 = 0 ∧ prI H[5]? 3 = 3 ∧ prI H[5]? 4 = 0) ∧
  (prF H[58]? 0 = 0 ∧ prF H[58]? 1 = 0 ∧ prF H[58]? 3 = 0 ∧ prF H[58]? 2 = 3) ∧
  (∀ q, q < 9 → prI H[19]? q = 0) ∧ (∀ q, q < 3 → prF H[20]? q = 0) ∧ (∀ q, q < 12 → prF H[65]? q = 0) ∧
  (prI H[21]? 0 = 0 ∧ prI H[21]? 1 = 0 ∧ prI H[56]? 21 = 0 ∧ prI H[56]? 24 = 0 ∧ prI H[45]? 0 = 0) ∧
  (∀ a, a < 2 → prF H[44]? a = 0 ∧ prF H[67]? a = 0)
theorem hq_ok : okH (exec 4000 53 0 [.ref 1, .float 0] [] [dd, .inl (6, dfl 6)]) = true ∧ okH (exec 4000 103 0 [.ref 56] [] (hq1 ++ [.inl (7, dfl 7)])) = true := by decide +kernel
theorem hq_chk : HPp hq1 hq2 := by
  unfold HPp
  decide +kernel
theorem hq_e1 : exec 4000 53 0 [.ref 1, .float 0] [] [dd, .inl (6, dfl 6)] = some (hq1, none) := by
  have h := gH_e hq_ok.1
  rw [h]
  unfold hq1
  rfl
theorem hq_e2 : exec 4000 103 0 [.ref 56] [] (hq1 ++ [.inl (7, dfl 7)]) = some (hq2, none) := by
  have h := gH_e hq_ok.2
  rw [h]
  unfold hq2
  rfl
theorem hp_ex : ∃ H1 H : List Cel, exec 4000 53 0 [.ref 1, .float 0] [] [dd, .inl (6, dfl 6)] = some (H1, none) ∧ exec 4000 103 0 [.ref 56] [] (H1 ++ [.inl (7, dfl 7)]) = some (H, none) ∧ HPp H1 H :=
  ⟨hq1, hq2, hq_e1, hq_e2, hq_chk⟩
noncomputable def hp1 : List Cel := Classical.choose hp_ex
theorem hp_ex2 : ∃ H : List Cel, exec 4000 53 0 [.ref 1, .float 0] [] [dd, .inl (6, dfl 6)] = some (hp1, none) ∧ exec 4000 103 0 [.ref 56] [] (hp1 ++ [.inl (7, dfl 7)]) = some (H, none) ∧ HPp hp1 H := Classical.choose_spec hp_ex
noncomputable def hp2 : List Cel := Classical.choose hp_ex2
theorem hp_run : exec 4000 53 0 [.ref 1, .float 0] [] [dd, .inl (6, dfl 6)] = some (hp1, none) ∧ exec 4000 103 0 [.ref 56] [] (hp1 ++ [.inl (7, dfl 7)]) = some (hp2, none) ∧ HPp hp1 hp2 := Classical.choose_spec hp_ex2
theorem hp_p : HPp hp1 hp2 := hp_run.2.2
theorem hp_len : hp1.length = 56 ∧ hp2.length = 73 := ⟨hp_p.1, hp_p.2.1⟩
theorem hp_r : (∀ j, j < 10 → prQ hp2[22]? j = some (23 + 2 * j)) ∧ (∀ j, j < 2 → prQ hp2[43]? j = some (52 + 2 * j)) := ⟨hp_p.2.2.1, hp_p.2.2.2.1⟩
