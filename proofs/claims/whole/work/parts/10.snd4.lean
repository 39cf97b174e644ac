section SND4
variable {p : Program} {l : Launch} {e : Env} {R : Room} {s : State} {m : MethodId} {args : Array Value} {below : List Frame} {meth : Method} {c : Code} {Q : State → Prop} {g : Wd} {mid : Nat} {cells slots pc : Nat} {ls st : List Value} {h : List Cel} {a b op : Nat} {cc : Int} {q : Cfg}
theorem snd_stp (X : Cx p R s m args meth c g mid) (hop : op < 60) (hok : okI mid pc (op, a, b, cc) = true) (hs : stp op a b cc pc ls st h = some q) (hr : RM R cells slots h q.2.2.2) (k : KK p l e R s m args below meth c Q g mid cells slots h q) : WA p l e R s m args below meth c Q g mid cells slots pc ls st h := by
  match op, hop, hok, hs with
  | 0, _, hok, hs => exact sn_0 X hok hs k
  | 1, _, hok, hs => exact sn_1 X hok hs k
  | 2, _, hok, hs => exact sn_2 X hok hs k
  | 3, _, hok, hs => exact sn_3 X hok hs k
  | 4, _, hok, hs => exact sn_4 X hok hs k
  | 5, _, hok, hs => exact sn_5 X hok hs k
  | 6, _, hok, hs => exact sn_6 X hok hs k
  | 7, _, hok, hs => exact sn_7 X hok hs k
  | 8, _, hok, hs => exact sn_8 X hok hs k
  | 9, _, hok, hs => exact sn_9 X hok hs k
  | 10, _, hok, hs => exact sn_10 X hok hs k
  | 11, _, hok, hs => exact sn_11 X hok hs k
  | 12, _, hok, hs => exact sn_12 X hok hs k
  | 13, _, hok, hs => exact sn_13 X hok hs k
  | 14, _, hok, hs => exact sn_14 X hok hs k
  | 15, _, hok, hs => exact sn_15 X hok hs k
  | 16, _, hok, hs => exact sn_16 X hok hs k
  | 17, _, hok, hs => exact sn_17 X hok hs k
  | 18, _, hok, hs => exact sn_18 X hok hs k
  | 19, _, hok, hs => exact sn_19 X hok hs k
  | 20, _, hok, hs => exact sn_20 X hok hs k
  | 21, _, hok, hs => exact sn_21 X hok hs k
  | 22, _, hok, hs => exact sn_22 X hok hs k
  | 23, _, hok, hs => exact sn_23 X hok hs k
  | 24, _, hok, hs => exact sn_24 X hok hs k
  | 25, _, hok, hs => exact sn_25 X hok hs k
  | 26, _, hok, hs => exact sn_26 X hok hs k
  | 27, _, hok, hs => exact sn_27 X hok hs k
  | 28, _, hok, hs => exact sn_28 X hok hs k
  | 29, _, hok, hs => exact sn_29 X hok hs k
  | 30, _, hok, hs => exact sn_30 X hok hs k
  | 31, _, hok, hs => exact sn_31 X hok hs k
  | 32, _, hok, hs => exact sn_32 X hok hs k
  | 33, _, hok, hs => exact sn_33 X hok hs k
  | 34, _, hok, hs => exact sn_34 X hok hs k
  | 35, _, hok, hs => exact sn_35 X hok hs k
  | 36, _, hok, hs => exact sn_36 X hok hs k
  | 37, _, hok, hs => exact sn_37 X hok hs k
  | 38, _, hok, hs => exact sn_38 X hok hs k
  | 39, _, hok, hs => exact sn_39 X hok hs k
  | 40, _, hok, hs => exact sn_40 X hok hs k
  | 41, _, hok, hs => exact sn_41 X hok hs k
  | 42, _, hok, hs => exact sn_42 X hok hs k
  | 43, _, hok, hs => exact sn_43 X hok hs k
  | 44, _, hok, hs => exact sn_44 X hok hs k
  | 45, _, hok, hs => exact sn_45 X hok hs hr k
  | 46, _, hok, hs => exact sn_46 X hok hs hr k
  | 47, _, hok, hs => exact sn_47 X hok hs hr k
  | 48, _, hok, hs => exact sn_48 X hok hs k
  | 49, _, hok, hs => exact sn_49 X hok hs hr k
  | 50, _, hok, hs => exact sn_50 X hok hs k
  | 51, _, hok, hs => exact absurd hs (by intro z; cases z)
  | 52, _, hok, hs => exact absurd hs (by intro z; cases z)
  | 53, _, hok, hs => exact absurd hs (by intro z; cases z)
  | 54, _, hok, hs => exact absurd hs (by intro z; cases z)
  | 55, _, hok, hs => exact absurd hs (by intro z; cases z)
  | 56, _, hok, hs => exact absurd hs (by intro z; cases z)
  | 57, _, hok, hs => exact absurd hs (by intro z; cases z)
  | 58, _, hok, hs => exact absurd hs (by intro z; cases z)
  | 59, _, hok, hs => exact absurd hs (by intro z; cases z)
  | n + 60, h, _, _ => exact absurd h (by omega)
/-- what a step does to the heap -/
def Sh (h h' : List Cel) : Prop := h' = h ∨ (∃ (k : Nat) (x y : Cel), h[k]? = some x ∧ csz y = csz x ∧ h' = h.set k y) ∨ ∃ x : Cel, h' = h ++ [x]
theorem Sh.mono {h h' : List Cel} (X : Sh h h') : h.length ≤ h'.length ∧ sl h ≤ sl h' := by
  rcases X with rfl | ⟨k, x, y, h1, h2, rfl⟩ | ⟨x, rfl⟩
  · exact ⟨Nat.le_refl _, Nat.le_refl _⟩
  · rw [List.length_set, sl_set h1 h2]; exact ⟨Nat.le_refl _, Nat.le_refl _⟩
  · rw [List.length_append, sl_app]; exact ⟨by simp, by omega⟩
theorem stp_sh (hs : stp op a b cc pc ls st h = some q) : Sh h q.2.2.2 := by
  by_cases hop : op < 60
  · match op, hop, hs with
    | 0, _, hs => cases hs; exact Or.inl rfl
    | 1, _, hs => cases hs; exact Or.inl rfl
    | 2, _, hs => cases hs; exact Or.inl rfl
    | 3, _, hs => cases hs; exact Or.inl rfl
    | 4, _, hs => cases hs; exact Or.inl rfl
    | 5, _, hs => cases hs; exact Or.inl rfl
    | 6, _, hs => obtain ⟨x, hx, rfl⟩ := lod_inv hs; exact Or.inl rfl
    | 7, _, hs => obtain ⟨x, hx, rfl⟩ := lod_inv hs; exact Or.inl rfl
    | 8, _, hs => obtain ⟨x, hx, rfl⟩ := loa_inv hs; exact Or.inl rfl
    | 9, _, hs => obtain ⟨x, r, rfl, rfl⟩ := sto_inv hs; exact Or.inl rfl
    | 10, _, hs => obtain ⟨x, r, rfl, rfl⟩ := sto_inv hs; exact Or.inl rfl
    | 11, _, hs => 
      replace hs : o_11 a b cc pc ls st h = some q := hs
      unfold o_11 at hs
      split at hs
      · cases hs; exact Or.inl rfl
      · cases hs
    | 12, _, hs => 
      replace hs : o_12 a b cc pc ls st h = some q := hs
      unfold o_12 at hs
      split at hs
      · cases hs; exact Or.inl rfl
      · cases hs
    | 13, _, hs => obtain ⟨y, x, r, rfl, rfl⟩ := bin_inv hs; exact Or.inl rfl
    | 14, _, hs => obtain ⟨y, x, r, rfl, rfl⟩ := bin_inv hs; exact Or.inl rfl
    | 15, _, hs => obtain ⟨y, x, r, rfl, rfl⟩ := bin_inv hs; exact Or.inl rfl
    | 16, _, hs => 
      replace hs : o_16 a b cc pc ls st h = some q := hs
      unfold o_16 at hs
      split at hs
      · split at hs
        · cases hs
        · cases hs; exact Or.inl rfl
      · cases hs
    | 17, _, hs => 
      replace hs : o_17 a b cc pc ls st h = some q := hs
      unfold o_17 at hs
      split at hs
      · split at hs
        · cases hs
        · cases hs; exact Or.inl rfl
      · cases hs
    | 18, _, hs => 
      replace hs : o_18 a b cc pc ls st h = some q := hs
      unfold o_18 at hs
      split at hs
      · cases hs; exact Or.inl rfl
      · cases hs
    | 19, _, hs => obtain ⟨y, x, r, rfl, rfl⟩ := bin_inv hs; exact Or.inl rfl
    | 20, _, hs => obtain ⟨y, x, r, rfl, rfl⟩ := bin_inv hs; exact Or.inl rfl
    | 21, _, hs => obtain ⟨y, x, r, rfl, rfl⟩ := bin_inv hs; exact Or.inl rfl
    | 22, _, hs => obtain ⟨y, x, r, rfl, rfl⟩ := bin_inv hs; exact Or.inl rfl
    | 23, _, hs => obtain ⟨y, x, r, rfl, rfl⟩ := bin_inv hs; exact Or.inl rfl
    | 24, _, hs => 
      replace hs : o_24 a b cc pc ls st h = some q := hs
      unfold o_24 at hs
      split at hs
      · cases hs; exact Or.inl rfl
      · cases hs
    | 25, _, hs => 
      replace hs : o_25 a b cc pc ls st h = some q := hs
      unfold o_25 at hs
      split at hs
      · cases hs; exact Or.inl rfl
      · cases hs
    | 26, _, hs => 
      replace hs : o_26 a b cc pc ls st h = some q := hs
      unfold o_26 at hs
      split at hs
      · split at hs
        · cases hs; exact Or.inl rfl
        · cases hs
      · cases hs
    | 27, _, hs => 
      replace hs : o_27 a b cc pc ls st h = some q := hs
      unfold o_27 at hs
      split at hs
      · split at hs
        · cases hs; exact Or.inl rfl
        · cases hs
      · cases hs
    | 28, _, hs => 
      replace hs : o_28 a b cc pc ls st h = some q := hs
      unfold o_28 at hs
      split at hs
      · split at hs
        · cases hs; exact Or.inl rfl
        · cases hs
      · cases hs
    | 29, _, hs => 
      replace hs : o_29 a b cc pc ls st h = some q := hs
      unfold o_29 at hs
      split at hs
      · cases hs; exact Or.inl rfl
      · cases hs
    | 30, _, hs => 
      replace hs : o_30 a b cc pc ls st h = some q := hs
      unfold o_30 at hs
      split at hs
      · cases hs; exact Or.inl rfl
      · cases hs
    | 31, _, hs => cases hs; exact Or.inl rfl
    | 32, _, hs => 
      replace hs : o_32 a b cc pc ls st h = some q := hs
      unfold o_32 at hs
      split at hs
      · cases hs; exact Or.inl rfl
      · cases hs
    | 33, _, hs => 
      replace hs : o_33 a b cc pc ls st h = some q := hs
      unfold o_33 at hs
      split at hs
      · cases hs; exact Or.inl rfl
      · cases hs
    | 34, _, hs => 
      replace hs : o_34 a b cc pc ls st h = some q := hs
      unfold o_34 at hs
      split at hs
      · cases hs; exact Or.inl rfl
      · cases hs
    | 35, _, hs => 
      replace hs : o_35 a b cc pc ls st h = some q := hs
      unfold o_35 at hs
      split at hs
      · cases hs; exact Or.inl rfl
      · cases hs
    | 36, _, hs => 
      replace hs : o_36 a b cc pc ls st h = some q := hs
      unfold o_36 at hs
      split at hs
      · obtain ⟨v, h1, h2⟩ := Option.bind_eq_some_iff.mp hs
        cases h2; exact Or.inl rfl
      · cases hs
    | 37, _, hs => 
      replace hs : o_37 a b cc pc ls st h = some q := hs
      unfold o_37 at hs
      split at hs
      · obtain ⟨v, h1, h2⟩ := Option.bind_eq_some_iff.mp hs
        obtain ⟨fs, hz, hl, hn, hfit, rfl⟩ := pF_inv h1
        cases h2; exact Or.inr (Or.inl ⟨_, _, _, hz, by simp [csz], rfl⟩)
      · cases hs
    | 38, _, hs => 
      replace hs : o_38 a b cc pc ls st h = some q := hs
      unfold o_38 at hs
      split at hs
      · obtain ⟨v, h1, h2⟩ := Option.bind_eq_some_iff.mp hs
        cases h2; exact Or.inl rfl
      · cases hs
    | 39, _, hs => 
      replace hs : o_39 a b cc pc ls st h = some q := hs
      unfold o_39 at hs
      split at hs
      · obtain ⟨v, h1, h2⟩ := Option.bind_eq_some_iff.mp hs
        obtain ⟨n, f, hz, hin, rfl⟩ := pA_inv h1
        cases h2; exact Or.inr (Or.inl ⟨_, _, _, hz, by simp [csz], rfl⟩)
      · cases hs
    | 40, _, hs => 
      replace hs : o_40 a b cc pc ls st h = some q := hs
      unfold o_40 at hs
      split at hs
      · obtain ⟨v, h1, h2⟩ := Option.bind_eq_some_iff.mp hs
        cases h2; exact Or.inl rfl
      · cases hs
    | 41, _, hs => 
      replace hs : o_41 a b cc pc ls st h = some q := hs
      unfold o_41 at hs
      split at hs
      · obtain ⟨v, h1, h2⟩ := Option.bind_eq_some_iff.mp hs
        obtain ⟨n, f, hz, hin, hz1, rfl⟩ := pZ_inv h1
        cases h2; exact Or.inr (Or.inl ⟨_, _, _, hz, by simp [csz], rfl⟩)
      · cases hs
    | 42, _, hs => 
      replace hs : o_42 a b cc pc ls st h = some q := hs
      unfold o_42 at hs
      split at hs
      · obtain ⟨v, h1, h2⟩ := Option.bind_eq_some_iff.mp hs
        cases h2; exact Or.inl rfl
      · cases hs
    | 43, _, hs => 
      replace hs : o_43 a b cc pc ls st h = some q := hs
      unfold o_43 at hs
      split at hs
      · obtain ⟨v, h1, h2⟩ := Option.bind_eq_some_iff.mp hs
        obtain ⟨n, f, fs, hz, hv, hin, rfl⟩ := pQ_inv h1
        cases h2; exact Or.inr (Or.inl ⟨_, _, _, hz, by simp [csz], rfl⟩)
      · cases hs
    | 44, _, hs => 
      replace hs : o_44 a b cc pc ls st h = some q := hs
      unfold o_44 at hs
      split at hs
      · obtain ⟨v, h1, h2⟩ := Option.bind_eq_some_iff.mp hs
        cases h2; exact Or.inl rfl
      · cases hs
    | 45, _, hs => 
      replace hs : o_45 a b cc pc ls st h = some q := hs
      unfold o_45 at hs
      split at hs
      · split at hs
        · cases hs
        · cases hs; exact Or.inr (Or.inr ⟨_, rfl⟩)
      · cases hs
    | 46, _, hs => 
      replace hs : o_46 a b cc pc ls st h = some q := hs
      unfold o_46 at hs
      split at hs
      · split at hs
        · cases hs
        · cases hs; exact Or.inr (Or.inr ⟨_, rfl⟩)
      · cases hs
    | 47, _, hs => cases hs; exact Or.inr (Or.inr ⟨_, rfl⟩)
    | 48, _, hs => 
      replace hs : o_48 a b cc pc ls st h = some q := hs
      unfold o_48 at hs
      split at hs
      · split at hs
        · cases hs; exact Or.inl rfl
        · cases hs
      · cases hs
    | 49, _, hs => 
      replace hs : o_49 a b cc pc ls st h = some q := hs
      unfold o_49 at hs
      split at hs
      · split at hs
        · cases hs; exact Or.inl rfl
        · cases hs
      · split at hs
        · cases hs; exact Or.inl rfl
        · cases hs
      · split at hs
        · cases hs; exact Or.inl rfl
        · cases hs
      · cases hs
    | 50, _, hs => cases hs; exact Or.inl rfl
    | 51, _, hs => cases hs
    | 52, _, hs => cases hs
    | 53, _, hs => cases hs
    | 54, _, hs => cases hs
    | 55, _, hs => cases hs
    | 56, _, hs => cases hs
    | 57, _, hs => cases hs
    | 58, _, hs => cases hs
    | 59, _, hs => cases hs
    | n + 60, h, _ => exact absurd h (by omega)
  · exfalso
    match op, hop, hs with
    | 0, h, _ => exact h (by omega)
    | 1, h, _ => exact h (by omega)
    | 2, h, _ => exact h (by omega)
    | 3, h, _ => exact h (by omega)
    | 4, h, _ => exact h (by omega)
    | 5, h, _ => exact h (by omega)
    | 6, h, _ => exact h (by omega)
    | 7, h, _ => exact h (by omega)
    | 8, h, _ => exact h (by omega)
    | 9, h, _ => exact h (by omega)
    | 10, h, _ => exact h (by omega)
    | 11, h, _ => exact h (by omega)
    | 12, h, _ => exact h (by omega)
    | 13, h, _ => exact h (by omega)
    | 14, h, _ => exact h (by omega)
    | 15, h, _ => exact h (by omega)
    | 16, h, _ => exact h (by omega)
    | 17, h, _ => exact h (by omega)
    | 18, h, _ => exact h (by omega)
    | 19, h, _ => exact h (by omega)
    | 20, h, _ => exact h (by omega)
    | 21, h, _ => exact h (by omega)
    | 22, h, _ => exact h (by omega)
    | 23, h, _ => exact h (by omega)
    | 24, h, _ => exact h (by omega)
    | 25, h, _ => exact h (by omega)
    | 26, h, _ => exact h (by omega)
    | 27, h, _ => exact h (by omega)
    | 28, h, _ => exact h (by omega)
    | 29, h, _ => exact h (by omega)
    | 30, h, _ => exact h (by omega)
    | 31, h, _ => exact h (by omega)
    | 32, h, _ => exact h (by omega)
    | 33, h, _ => exact h (by omega)
    | 34, h, _ => exact h (by omega)
    | 35, h, _ => exact h (by omega)
    | 36, h, _ => exact h (by omega)
    | 37, h, _ => exact h (by omega)
    | 38, h, _ => exact h (by omega)
    | 39, h, _ => exact h (by omega)
    | 40, h, _ => exact h (by omega)
    | 41, h, _ => exact h (by omega)
    | 42, h, _ => exact h (by omega)
    | 43, h, _ => exact h (by omega)
    | 44, h, _ => exact h (by omega)
    | 45, h, _ => exact h (by omega)
    | 46, h, _ => exact h (by omega)
    | 47, h, _ => exact h (by omega)
    | 48, h, _ => exact h (by omega)
    | 49, h, _ => exact h (by omega)
    | 50, h, _ => exact h (by omega)
    | 51, h, _ => exact h (by omega)
    | 52, h, _ => exact h (by omega)
    | 53, h, _ => exact h (by omega)
    | 54, h, _ => exact h (by omega)
    | 55, h, _ => exact h (by omega)
    | 56, h, _ => exact h (by omega)
    | 57, h, _ => exact h (by omega)
    | 58, h, _ => exact h (by omega)
    | 59, h, _ => exact h (by omega)
    | n + 60, _, hs => cases hs
theorem exec_mono : ∀ (n mid pc : Nat) (ls st : List Value) (h : List Cel) (x : Res), exec n mid pc ls st h = some x → (h.length ≤ x.1.length ∧ sl h ≤ sl x.1) ∧ ((∃ v, x.2 = some (.int v)) ∨ (∃ v, x.2 = some (.long v)) ∨ x.2 = none) := by
  intro n
  induction n with
  | zero => intro mid pc ls st h x hx; cases hx
  | succ n ih =>
    intro mid pc ls st h x hx
    unfold exec at hx
    split at hx
    · cases hx
    · rename_i op a b cc hf
      by_cases h1 : op < 60
      · rw [if_pos h1] at hx
        obtain ⟨q, hq, hx⟩ := Option.bind_eq_some_iff.mp hx
        have i := ih _ _ _ _ _ _ hx
        have j := (stp_sh hq).mono
        exact ⟨⟨Nat.le_trans j.1 i.1.1, Nat.le_trans j.2 i.1.2⟩, i.2⟩
      · rw [if_neg h1] at hx
        by_cases h2 : op < 63
        · rw [if_pos h2] at hx
          by_cases h3 : cgo op b st h = true
          · rw [if_pos h3] at hx
            obtain ⟨q, hq, hx⟩ := Option.bind_eq_some_iff.mp hx
            have i := ih _ _ _ _ _ _ hx
            have j := ih _ _ _ _ _ _ hq
            exact ⟨⟨Nat.le_trans j.1.1 i.1.1, Nat.le_trans j.1.2 i.1.2⟩, i.2⟩
          · rw [if_neg h3] at hx; cases hx
        · rw [if_neg h2] at hx
          unfold rtn at hx
          split at hx
          · split at hx
            · cases hx; exact ⟨⟨Nat.le_refl _, Nat.le_refl _⟩, Or.inl ⟨_, rfl⟩⟩
            · cases hx
          · split at hx
            · cases hx; exact ⟨⟨Nat.le_refl _, Nat.le_refl _⟩, Or.inr (Or.inl ⟨_, rfl⟩)⟩
            · cases hx
          · split at hx
            · cases hx; exact ⟨⟨Nat.le_refl _, Nat.le_refl _⟩, Or.inr (Or.inr rfl)⟩
            · cases hx
          · cases hx
/-- how a method's body ends -/
def RT (mid pcR : Nat) (r : Option Value) : Prop :=
  (∃ v, r = some (.int v) ∧ decode (bO mid) pcR = .ok (.ireturn, 1) ∧ (rO mid = some .int ∨ (rO mid = some .boolean ∧ v &&& 1 = v))) ∨ (∃ v, r = some (.long v) ∧ decode (bO mid) pcR = .ok (.lreturn, 1) ∧ rO mid = some .long) ∨ (r = none ∧ decode (bO mid) pcR = .ok (.return_, 1) ∧ rO mid = none)
def KR (p : Program) (l : Launch) (e : Env) (R : Room) (s : State) (m : MethodId) (args : Array Value) (below : List Frame) (meth : Method) (c : Code) (Q : State → Prop) (g : Wd) (mid cells slots : Nat) (h h' : List Cel) (r : Option Value) : Prop :=
  ∀ (cells' slots' pcR : Nat) (H : Heap) (locs : List Loc) (la : Array Slot), cells' + h.length = cells + h'.length → slots' + sl h = slots + sl h' → HS g h' s H → va_S (A0 g) s.heap H locs → RT mid pcR r → W p l e R s m args below meth c H locs cells' slots' Q (F0 m pcR la r.toList)
def PS (l : Launch) (g : Wd) (n : Nat) : Prop := ∀ (mid pc : Nat) (ls st : List Value) (h h' : List Cel) (r : Option Value), exec n mid pc ls st h = some (h', r) → ∀ (p : Program) (e : Env) (R : Room) (s : State) (m : MethodId) (args : Array Value) (below : List Frame) (meth : Method) (c : Code) (Q : State → Prop) (cells slots : Nat), Cx p R s m args meth c g mid → RM R cells slots h h' → KR p l e R s m args below meth c Q g mid cells slots h h' r → WA p l e R s m args below meth c Q g mid cells slots pc ls st h
/-- a method's contract out of a run of it -/
def PcO (g : Wd) (as : List Value) (h : List Cel) : Array Value → State → Prop := va_Pc (as.map (tr g.2.2.2.2.1 g.2.2.2.2.2)) (fun U => HS g h U U.heap ∧ KS g U)
def QcO (g : Wd) (h' : List Cel) (r : Option Value) : Array Value → State → Outcome → State → Prop := match r with
  | some (.int v) => va_Qi (fun x (_ : Unit) => x = v) (fun _ t => HS g h' t t.heap) (A0 g)
  | some (.long v) => va_Ql (fun x (_ : Unit) => x = v) (fun _ t => HS g h' t t.heap) (A0 g)
  | _ => va_Qv (fun (_ : Unit) => True) (fun _ t => HS g h' t t.heap) (A0 g)
theorem lg_sl1 : ∀ (vs : List Value), (∀ v ∈ vs, v.category = 1) → (lg_sl vs).length = vs.length
  | [], _ => rfl
  | v :: t, h => by
    have h1 := h v List.mem_cons_self
    have ih := lg_sl1 t (fun w hw => h w (List.mem_cons_of_mem _ hw))
    have : lg_sl (v :: t) = [.val v] ++ lg_sl t := by
      unfold lg_sl
      rw [List.flatMap_cons, if_neg (by omega)]
    rw [this, List.length_append, ih]
    simp
    omega
theorem lv_args1 : ∀ (vs : List Value) (k i : Nat) (v : Value), (∀ v ∈ vs, v.category = 1) → vs[i]? = some v → (k + i, v) ∈ lv_args k vs
  | [], _, _, _, _, h => by simp at h
  | w :: t, k, i, v, hc, h => by
    have h1 := hc w List.mem_cons_self
    unfold lv_args
    rw [if_neg (by omega)]
    cases i with
    | zero =>
      rw [List.getElem?_cons_zero] at h
      cases h
      exact List.mem_cons_self
    | succ i =>
      rw [List.getElem?_cons_succ] at h
      have := lv_args1 t (k + 1) i v (fun w hw => hc w (List.mem_cons_of_mem _ hw)) h
      rw [show k + (i + 1) = k + 1 + i by omega]
      exact List.mem_cons_of_mem _ this
theorem isV_cat {v : Value} (h : isV v = true) : v.category = 1 ∧ v ≠ .float 0 := by
  cases v with
  | int x => exact ⟨rfl, by intro z; cases z⟩
  | ref x => exact ⟨rfl, by intro z; cases z⟩
  | null => exact ⟨rfl, by intro z; cases z⟩
  | _ => cases h
theorem LR.entry {as : List Value} (hv : as.all isV = true) (hl : as.length ≤ lO mid) : LR g (lO mid) (entL mid as) ((lg_sl (as.map (tr g.2.2.2.2.1 g.2.2.2.2.2)) ++ List.replicate (lO mid - (lg_sl (as.map (tr g.2.2.2.2.1 g.2.2.2.2.2))).length) Slot.unset).toArray) := by
  have hv := List.all_eq_true.mp hv
  have hc : ∀ v ∈ as.map (tr g.2.2.2.2.1 g.2.2.2.2.2), v.category = 1 := fun v h => by
    obtain ⟨w, hw, rfl⟩ := List.mem_map.mp h
    rw [tr_cat]; exact (isV_cat (hv w hw)).1
  have hl2 : (lg_sl (as.map (tr g.2.2.2.2.1 g.2.2.2.2.2))).length = as.length := by rw [lg_sl1 _ hc, List.length_map]
  have E := lv_entry (as.map (tr g.2.2.2.2.1 g.2.2.2.2.2)) (n := lO mid) (by rw [hl2]; exact hl)
  refine ⟨?_, E.1, E.2.1, fun i v hi => ?_, fun i v hi hz => ?_⟩
  · unfold entL
    rw [List.length_append, List.length_replicate]
    omega
  · unfold entL at hi
    rcases List.mem_append.mp (List.mem_of_getElem? hi) with h | h
    · exact (isV_cat (hv v h)).1
    · rw [(List.mem_replicate.mp h).2]; rfl
  · unfold entL at hi
    by_cases hi2 : i < as.length
    · rw [List.getElem?_append_left hi2] at hi
      have := lv_args1 (as.map (tr g.2.2.2.2.1 g.2.2.2.2.2)) 0 i (tr g.2.2.2.2.1 g.2.2.2.2.2 v) hc (by rw [List.getElem?_map, hi]; rfl)
      rw [Nat.zero_add] at this
      exact E.2.2 _ this
    · rw [List.getElem?_append_right (by omega)] at hi
      have := List.mem_replicate.mp (List.mem_of_getElem? hi)
      exact absurd this.2 hz
theorem met_of {n k : Nat} {as : List Value} {h' : List Cel} {r : Option Value} (ih : PS l g n) (hg : g.2.2.2.2.1 < g.2.2.2.2.2) (hk : tx_ok k) (hx : exec n k 0 (entL k as) [] h = some (h', r)) (hv : as.all isV = true) (hl : as.length = nA k) :
    Met l (yO k) (Cond.code (yO k) (bO k) (lO k) (rO k) :: tx_B) ({ frames := fO k, cells := h'.length - h.length, slots := sl h' - sl h, locals := qO k }) (PcO g as h) (QcO g h' r) (h'.length - h.length) (sl h' - sl h) (A0 g) := by
  refine Met.ofW (cc := bO k) (maxL := lO k) (ret := rO k) hk.2.2.1.1 rfl ?_
  intro p e s m args below meth c s₁ B hml hP
  obtain ⟨rfl, hHS, hKS⟩ := hP
  have hts := atoms_spec (ws := Cond.code (yO k) (bO k) (lO k) (rO k) :: tx_B) B.pre
  have hm := exec_mono _ _ _ _ _ _ _ hx
  dsimp only at hm
  have hpos := hHS.pos
  have hown : s.vm.findClass (tx_R (oO k)) = some m.cls := by
    rw [← hk.2.2.2.2.1]
    exact findClass_of_methodNamed B.named
  have hnm : meth.name = (yO k).name := (name_of_methodNamed B.named B.method).1
  have X : Cx p (headSpec (Cond.code (yO k) (bO k) (lO k) (rO k) :: tx_B) { frames := fO k, cells := h'.length - h.length, slots := sl h' - sl h, locals := qO k }).room s m ((as.map (tr g.2.2.2.2.1 g.2.2.2.2.2)).toArray) meth c g k :=
    ⟨B.exec, B.bytes, hml, hown, fun w hw => hts w (List.mem_cons_of_mem _ hw), hKS, Nat.le_refl _, Nat.le_refl _, fun _ => hnm, by have := hHS.1; omega, hg⟩
  rw [lg_entry_eq]
  have hlocks := B.notSynchronized
  have hr := B.returns
  refine ih k 0 (entL k as) [] h h' r hx p e _ s m _ below meth c _ 0 0 X ⟨by show 0 + h'.length ≤ h'.length - h.length + h.length; omega, by show 0 + sl h' ≤ sl h' - sl h + sl h; omega⟩ ?_ s.heap [] _ hHS va_S.rf (LR.entry hv (by rw [hl]; exact hk.2.2.2.2.2.2.2.2.2))
  intro cells' slots' pcR H locs la hc hs h1 h2 h3
  have hc : cells' = h'.length - h.length := by omega
  have hs : slots' = sl h' - sl h := by omega
  subst hc
  subst hs
  rcases h3 with ⟨v, rfl, hd, ht⟩ | ⟨v, rfl, hd, ht⟩ | ⟨rfl, hd, ht⟩
  · have hq : ∀ t : State, t.heap = H → s.WarmedH t.vm → QcO g h' (some (.int v)) ((as.map (tr g.2.2.2.2.1 g.2.2.2.2.2)).toArray) s (.returned (some (.int v))) t := fun t ht hW => ⟨⟨v, (), rfl, rfl, by show HS g h' t t.heap; rw [ht]; exact HS.moved hW.alike h1⟩, h2.F ht⟩
    rcases ht with ht | ⟨ht, hz⟩
    · exact W.iret X.1 X.2.1 (hr.trans ht) hq h2.2.2 hd hlocks
    · exact W.zret X.1 X.2.1 (hr.trans ht) (by show Value.int (v &&& 1) = _; rw [hz]) hq h2.2.2 hd hlocks
  · have hq : ∀ t : State, t.heap = H → s.WarmedH t.vm → QcO g h' (some (.long v)) ((as.map (tr g.2.2.2.2.1 g.2.2.2.2.2)).toArray) s (.returned (some (.long v))) t := fun t ht hW => ⟨⟨v, (), rfl, rfl, by show HS g h' t t.heap; rw [ht]; exact HS.moved hW.alike h1⟩, h2.F ht⟩
    exact W.lret X.1 X.2.1 (hr.trans ht) hq h2.2.2 hd hlocks
  · have hq : ∀ t : State, t.heap = H → s.WarmedH t.vm → QcO g h' none ((as.map (tr g.2.2.2.2.1 g.2.2.2.2.2)).toArray) s (.returned none) t := fun t ht hW => ⟨⟨(), rfl, trivial, by show HS g h' t t.heap; rw [ht]; exact HS.moved hW.alike h1⟩, h2.F ht⟩
    exact W.vret X.1 X.2.1 (hr.trans ht) hq h2.2.2 hd hlocks
end SND4
