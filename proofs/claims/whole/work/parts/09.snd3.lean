section SND3
variable {p : Program} {l : Launch} {e : Env} {R : Room} {s : State} {m : MethodId} {args : Array Value} {below : List Frame} {meth : Method} {c : Code} {Q : State → Prop} {g : Wd} {mid : Nat} {cells slots pc : Nat} {ls st : List Value} {h : List Cel} {a b : Nat} {cc : Int} {q : Cfg}
/-- what the step gives: the walk from behind it is enough -/
def KK (p : Program) (l : Launch) (e : Env) (R : Room) (s : State) (m : MethodId) (args : Array Value) (below : List Frame) (meth : Method) (c : Code) (Q : State → Prop) (g : Wd) (mid : Nat) (cells slots : Nat) (h : List Cel) (q : Cfg) : Prop :=
  ∀ (cells' slots' : Nat), cells' + h.length = cells + q.2.2.2.length → slots' + sl h = slots + sl q.2.2.2 → WA p l e R s m args below meth c Q g mid cells' slots' q.1 q.2.1 q.2.2.1 q.2.2.2
theorem swP_off : ∀ (os : List Int) (lo d x : Int), Op.lookupswitch.offset (swP lo os) d x = if lo ≤ x ∧ x < lo + os.length then os.getD (x - lo).toNat d else d
  | [], lo, d, x => by
    rw [if_neg (by simp only [List.length_nil]; omega)]
    rfl
  | o :: r, lo, d, x => by
    rw [show swP lo (o :: r) = (lo, o) :: swP (lo + 1) r from rfl, Op.lookupswitch.offset_cons, swP_off r (lo + 1) d x]
    simp only [List.length_cons]
    by_cases h1 : lo = x
    · subst h1
      rw [if_pos rfl, if_pos (by constructor <;> omega)]
      simp
    · rw [if_neg h1]
      by_cases h2 : lo + 1 ≤ x ∧ x < lo + 1 + r.length
      · rw [if_pos h2, if_pos (by omega)]
        have : (x - lo).toNat = (x - (lo + 1)).toNat + 1 := by omega
        rw [this]
        simp
      · rw [if_neg h2, if_neg (by omega)]
theorem sl_set {k : Nat} {x y : Cel} (hx : h[k]? = some x) (hy : csz y = csz x) : sl (h.set k y) = sl h := by
  unfold sl
  congr 1
  apply List.ext_getElem?
  intro i
  rw [List.getElem?_map, List.getElem?_map, List.getElem?_set]
  by_cases e : k = i
  · subst e
    rw [if_pos rfl, if_pos (List.getElem?_eq_some_iff.mp hx).1, hx]
    exact congrArg some hy
  · rw [if_neg e]
theorem sn_0 (X : Cx p R s m args meth c g mid) (hok : okI mid pc (0, a, b, cc) = true) (hs : stp 0 a b cc pc ls st h = some q) (k : KK p l e R s m args below meth c Q g mid cells slots h q) : WA p l e R s m args below meth c Q g mid cells slots pc ls st h := by
  intro H locs la h1 h2 h3
  cases hs
  exact lv_iconst X.1 X.2.1 (dq_eq hok) rfl (k _ _ rfl rfl H locs la h1 h2 h3)

theorem sn_1 (X : Cx p R s m args meth c g mid) (hok : okI mid pc (1, a, b, cc) = true) (hs : stp 1 a b cc pc ls st h = some q) (k : KK p l e R s m args below meth c Q g mid cells slots h q) : WA p l e R s m args below meth c Q g mid cells slots pc ls st h := by
  obtain ⟨hd, ho⟩ := Bool.and_eq_true_iff.mp hok
  intro H locs la h1 h2 h3
  cases hs
  exact lv_bipush X.1 X.2.1 (dq_eq hd) (of_decide_eq_true ho) (k _ _ rfl rfl H locs la h1 h2 h3)

theorem sn_2 (X : Cx p R s m args meth c g mid) (hok : okI mid pc (2, a, b, cc) = true) (hs : stp 2 a b cc pc ls st h = some q) (k : KK p l e R s m args below meth c Q g mid cells slots h q) : WA p l e R s m args below meth c Q g mid cells slots pc ls st h := by
  obtain ⟨hd, ho⟩ := Bool.and_eq_true_iff.mp hok
  intro H locs la h1 h2 h3
  cases hs
  exact lv_sipush X.1 X.2.1 (dq_eq hd) (of_decide_eq_true ho) (k _ _ rfl rfl H locs la h1 h2 h3)

theorem sn_3 (X : Cx p R s m args meth c g mid) (hok : okI mid pc (3, a, b, cc) = true) (hs : stp 3 a b cc pc ls st h = some q) (k : KK p l e R s m args below meth c Q g mid cells slots h q) : WA p l e R s m args below meth c Q g mid cells slots pc ls st h := by
  obtain ⟨hd, ho⟩ := Bool.and_eq_true_iff.mp hok
  intro H locs la h1 h2 h3
  cases hs
  exact lv_ldc X.1 X.2.1 X.2.2.2.1 (X.2.2.2.2.1 _ (tx_I_ok _ (of_decide_eq_true ho))) (dq_eq hd) (k _ _ rfl rfl H locs la h1 h2 h3)

theorem sn_4 (X : Cx p R s m args meth c g mid) (hok : okI mid pc (4, a, b, cc) = true) (hs : stp 4 a b cc pc ls st h = some q) (k : KK p l e R s m args below meth c Q g mid cells slots h q) : WA p l e R s m args below meth c Q g mid cells slots pc ls st h := by
  obtain ⟨hd, ho⟩ := Bool.and_eq_true_iff.mp hok
  intro H locs la h1 h2 h3
  cases hs
  exact lv_ldc2 X.1 X.2.1 X.2.2.2.1 (X.2.2.2.2.1 _ (tx_J_ok _ (of_decide_eq_true ho))) (dq_eq hd) (k _ _ rfl rfl H locs la h1 h2 h3)

theorem sn_5 (X : Cx p R s m args meth c g mid) (hok : okI mid pc (5, a, b, cc) = true) (hs : stp 5 a b cc pc ls st h = some q) (k : KK p l e R s m args below meth c Q g mid cells slots h q) : WA p l e R s m args below meth c Q g mid cells slots pc ls st h := by
  obtain ⟨hd, ho⟩ := Bool.and_eq_true_iff.mp hok
  intro H locs la h1 h2 h3
  cases hs
  have ha : a < 2 := of_decide_eq_true ho
  exact lv_lconst X.1 X.2.1 (dq_eq hd) (by show Int64.ofNat (a % 2) = _; rw [Nat.mod_eq_of_lt ha]) (k _ _ rfl rfl H locs la h1 h2 h3)

theorem sn_6 (X : Cx p R s m args meth c g mid) (hok : okI mid pc (6, a, b, cc) = true) (hs : stp 6 a b cc pc ls st h = some q) (k : KK p l e R s m args below meth c Q g mid cells slots h q) : WA p l e R s m args below meth c Q g mid cells slots pc ls st h := by
  obtain ⟨hd, ho⟩ := Bool.and_eq_true_iff.mp hok
  intro H locs la h1 h2 h3
  obtain ⟨x, hx, rfl⟩ := lod_inv hs
  have ha : a < 4 := of_decide_eq_true ho
  exact lv_iload_n X.1 X.2.1 (dq_eq hd) (show a % 4 = a from Nat.mod_eq_of_lt ha) (h3.at hx (by intro z; cases z)) (k _ _ rfl rfl H locs la h1 h2 h3)

theorem sn_7 (X : Cx p R s m args meth c g mid) (hok : okI mid pc (7, a, b, cc) = true) (hs : stp 7 a b cc pc ls st h = some q) (k : KK p l e R s m args below meth c Q g mid cells slots h q) : WA p l e R s m args below meth c Q g mid cells slots pc ls st h := by
  intro H locs la h1 h2 h3
  obtain ⟨x, hx, rfl⟩ := lod_inv hs
  exact lv_iload X.1 X.2.1 (dq_eq hok) (h3.at hx (by intro z; cases z)) (k _ _ rfl rfl H locs la h1 h2 h3)

theorem sn_8 (X : Cx p R s m args meth c g mid) (hok : okI mid pc (8, a, b, cc) = true) (hs : stp 8 a b cc pc ls st h = some q) (k : KK p l e R s m args below meth c Q g mid cells slots h q) : WA p l e R s m args below meth c Q g mid cells slots pc ls st h := by
  obtain ⟨hd, ho⟩ := Bool.and_eq_true_iff.mp hok
  intro H locs la h1 h2 h3
  obtain ⟨x, hx, rfl⟩ := loa_inv hs
  have ha : a < 4 := of_decide_eq_true ho
  exact lv_aload_n X.1 X.2.1 (dq_eq hd) (show a % 4 = a from Nat.mod_eq_of_lt ha) (h3.at hx (by intro z; cases z)) (k _ _ rfl rfl H locs la h1 h2 h3)

theorem sn_9 (X : Cx p R s m args meth c g mid) (hok : okI mid pc (9, a, b, cc) = true) (hs : stp 9 a b cc pc ls st h = some q) (k : KK p l e R s m args below meth c Q g mid cells slots h q) : WA p l e R s m args below meth c Q g mid cells slots pc ls st h := by
  obtain ⟨hd, ho⟩ := Bool.and_eq_true_iff.mp hok
  intro H locs la h1 h2 h3
  obtain ⟨x, r, rfl, rfl⟩ := sto_inv hs
  obtain ⟨ha, hl⟩ : a < 4 ∧ a < lO mid := of_decide_eq_true ho
  exact lv_istore_n X.1 X.2.1 (dq_eq hd) (show a % 4 = a from Nat.mod_eq_of_lt ha) h3.has hl rfl fun la' hl' => k _ _ rfl rfl H locs la' h1 h2 (h3.set (v := .int x) hl rfl hl')

theorem sn_10 (X : Cx p R s m args meth c g mid) (hok : okI mid pc (10, a, b, cc) = true) (hs : stp 10 a b cc pc ls st h = some q) (k : KK p l e R s m args below meth c Q g mid cells slots h q) : WA p l e R s m args below meth c Q g mid cells slots pc ls st h := by
  obtain ⟨hd, ho⟩ := Bool.and_eq_true_iff.mp hok
  intro H locs la h1 h2 h3
  obtain ⟨x, r, rfl, rfl⟩ := sto_inv hs
  have hl : a < lO mid := of_decide_eq_true ho
  exact lv_istore X.1 X.2.1 (dq_eq hd) h3.has hl rfl fun la' hl' => k _ _ rfl rfl H locs la' h1 h2 (h3.set (v := .int x) hl rfl hl')

theorem sn_11 (X : Cx p R s m args meth c g mid) (hok : okI mid pc (11, a, b, cc) = true) (hs : stp 11 a b cc pc ls st h = some q) (k : KK p l e R s m args below meth c Q g mid cells slots h q) : WA p l e R s m args below meth c Q g mid cells slots pc ls st h := by
  obtain ⟨hd, ho⟩ := Bool.and_eq_true_iff.mp hok
  intro H locs la h1 h2 h3
  obtain ⟨x, r, rfl, rfl⟩ : ∃ x r, st = .ref x :: r ∧ q = (pc + 1, ls.set a (.ref x), r, h) := by
    replace hs : o_11 a b cc pc ls st h = some q := hs
    unfold o_11 at hs
    split at hs
    · cases hs; exact ⟨_, _, rfl, rfl⟩
    · cases hs
  obtain ⟨ha, hl⟩ : a < 4 ∧ a < lO mid := of_decide_eq_true ho
  exact lv_astore_n X.1 X.2.1 (dq_eq hd) (show a % 4 = a from Nat.mod_eq_of_lt ha) h3.has hl rfl fun la' hl' => k _ _ rfl rfl H locs la' h1 h2 (h3.set (v := .ref x) hl rfl hl')

theorem sn_12 (X : Cx p R s m args meth c g mid) (hok : okI mid pc (12, a, b, cc) = true) (hs : stp 12 a b cc pc ls st h = some q) (k : KK p l e R s m args below meth c Q g mid cells slots h q) : WA p l e R s m args below meth c Q g mid cells slots pc ls st h := by
  obtain ⟨hd, ho⟩ := Bool.and_eq_true_iff.mp hok
  intro H locs la h1 h2 h3
  obtain ⟨x, hx, rfl⟩ : ∃ x, ls[a]? = some (.int x) ∧ q = (pc + 3, ls.set a (.int (x + Int32.ofInt cc)), st, h) := by
    replace hs : o_12 a b cc pc ls st h = some q := hs
    unfold o_12 at hs
    split at hs
    · rename_i x hx; cases hs; exact ⟨_, hx, rfl⟩
    · cases hs
  have hl : a < lO mid := of_decide_eq_true ho
  obtain ⟨j, hj⟩ := List.getElem?_of_mem (mem_lvO (g := g) hx (by intro z; cases z))
  exact lv_iinc X.1 X.2.1 (dq_eq hd) h3.has hj rfl hl rfl fun la' hl' => k _ _ rfl rfl H locs la' h1 h2 (h3.set (v := .int (x + Int32.ofInt cc)) hl rfl hl')

theorem sn_13 (X : Cx p R s m args meth c g mid) (hok : okI mid pc (13, a, b, cc) = true) (hs : stp 13 a b cc pc ls st h = some q) (k : KK p l e R s m args below meth c Q g mid cells slots h q) : WA p l e R s m args below meth c Q g mid cells slots pc ls st h := by
  intro H locs la h1 h2 h3
  obtain ⟨y, x, r, rfl, rfl⟩ := bin_inv hs
  exact lv_iadd X.1 X.2.1 (dq_eq hok) (k _ _ rfl rfl H locs la h1 h2 h3)

theorem sn_14 (X : Cx p R s m args meth c g mid) (hok : okI mid pc (14, a, b, cc) = true) (hs : stp 14 a b cc pc ls st h = some q) (k : KK p l e R s m args below meth c Q g mid cells slots h q) : WA p l e R s m args below meth c Q g mid cells slots pc ls st h := by
  intro H locs la h1 h2 h3
  obtain ⟨y, x, r, rfl, rfl⟩ := bin_inv hs
  exact lv_isub X.1 X.2.1 (dq_eq hok) (k _ _ rfl rfl H locs la h1 h2 h3)

theorem sn_15 (X : Cx p R s m args meth c g mid) (hok : okI mid pc (15, a, b, cc) = true) (hs : stp 15 a b cc pc ls st h = some q) (k : KK p l e R s m args below meth c Q g mid cells slots h q) : WA p l e R s m args below meth c Q g mid cells slots pc ls st h := by
  intro H locs la h1 h2 h3
  obtain ⟨y, x, r, rfl, rfl⟩ := bin_inv hs
  exact lv_imul X.1 X.2.1 (dq_eq hok) (k _ _ rfl rfl H locs la h1 h2 h3)

theorem sn_19 (X : Cx p R s m args meth c g mid) (hok : okI mid pc (19, a, b, cc) = true) (hs : stp 19 a b cc pc ls st h = some q) (k : KK p l e R s m args below meth c Q g mid cells slots h q) : WA p l e R s m args below meth c Q g mid cells slots pc ls st h := by
  intro H locs la h1 h2 h3
  obtain ⟨y, x, r, rfl, rfl⟩ := bin_inv hs
  exact lv_iand X.1 X.2.1 (dq_eq hok) (k _ _ rfl rfl H locs la h1 h2 h3)

theorem sn_20 (X : Cx p R s m args meth c g mid) (hok : okI mid pc (20, a, b, cc) = true) (hs : stp 20 a b cc pc ls st h = some q) (k : KK p l e R s m args below meth c Q g mid cells slots h q) : WA p l e R s m args below meth c Q g mid cells slots pc ls st h := by
  intro H locs la h1 h2 h3
  obtain ⟨y, x, r, rfl, rfl⟩ := bin_inv hs
  exact lv_ior X.1 X.2.1 (dq_eq hok) (k _ _ rfl rfl H locs la h1 h2 h3)

theorem sn_21 (X : Cx p R s m args meth c g mid) (hok : okI mid pc (21, a, b, cc) = true) (hs : stp 21 a b cc pc ls st h = some q) (k : KK p l e R s m args below meth c Q g mid cells slots h q) : WA p l e R s m args below meth c Q g mid cells slots pc ls st h := by
  intro H locs la h1 h2 h3
  obtain ⟨y, x, r, rfl, rfl⟩ := bin_inv hs
  exact lv_ishl X.1 X.2.1 (dq_eq hok) (k _ _ rfl rfl H locs la h1 h2 h3)

theorem sn_22 (X : Cx p R s m args meth c g mid) (hok : okI mid pc (22, a, b, cc) = true) (hs : stp 22 a b cc pc ls st h = some q) (k : KK p l e R s m args below meth c Q g mid cells slots h q) : WA p l e R s m args below meth c Q g mid cells slots pc ls st h := by
  intro H locs la h1 h2 h3
  obtain ⟨y, x, r, rfl, rfl⟩ := bin_inv hs
  exact lv_ishr X.1 X.2.1 (dq_eq hok) (k _ _ rfl rfl H locs la h1 h2 h3)

theorem sn_23 (X : Cx p R s m args meth c g mid) (hok : okI mid pc (23, a, b, cc) = true) (hs : stp 23 a b cc pc ls st h = some q) (k : KK p l e R s m args below meth c Q g mid cells slots h q) : WA p l e R s m args below meth c Q g mid cells slots pc ls st h := by
  intro H locs la h1 h2 h3
  obtain ⟨y, x, r, rfl, rfl⟩ := bin_inv hs
  exact lv_iushr X.1 X.2.1 (dq_eq hok) rfl (k _ _ rfl rfl H locs la h1 h2 h3)

theorem sn_16 (X : Cx p R s m args meth c g mid) (hok : okI mid pc (16, a, b, cc) = true) (hs : stp 16 a b cc pc ls st h = some q) (k : KK p l e R s m args below meth c Q g mid cells slots h q) : WA p l e R s m args below meth c Q g mid cells slots pc ls st h := by
  intro H locs la h1 h2 h3
  obtain ⟨y, x, r, rfl, hc, rfl⟩ : ∃ y x r, st = .int y :: .int x :: r ∧ ¬ y = 0 ∧ q = (pc + 1, ls, .int (x / y) :: r, h) := by
    replace hs : o_16 a b cc pc ls st h = some q := hs
    unfold o_16 at hs
    split at hs
    · split at hs
      · cases hs
      · rename_i hc; cases hs; exact ⟨_, _, _, rfl, hc, rfl⟩
    · cases hs
  exact lv_idiv X.1 X.2.1 (dq_eq hok) hc (k _ _ rfl rfl H locs la h1 h2 h3)

theorem sn_17 (X : Cx p R s m args meth c g mid) (hok : okI mid pc (17, a, b, cc) = true) (hs : stp 17 a b cc pc ls st h = some q) (k : KK p l e R s m args below meth c Q g mid cells slots h q) : WA p l e R s m args below meth c Q g mid cells slots pc ls st h := by
  intro H locs la h1 h2 h3
  obtain ⟨y, x, r, rfl, hc, rfl⟩ : ∃ y x r, st = .int y :: .int x :: r ∧ ¬ y = 0 ∧ q = (pc + 1, ls, .int (x - x / y * y) :: r, h) := by
    replace hs : o_17 a b cc pc ls st h = some q := hs
    unfold o_17 at hs
    split at hs
    · split at hs
      · cases hs
      · rename_i hc; cases hs; exact ⟨_, _, _, rfl, hc, rfl⟩
    · cases hs
  exact lv_irem X.1 X.2.1 (dq_eq hok) hc (k _ _ rfl rfl H locs la h1 h2 h3)

theorem sn_18 (X : Cx p R s m args meth c g mid) (hok : okI mid pc (18, a, b, cc) = true) (hs : stp 18 a b cc pc ls st h = some q) (k : KK p l e R s m args below meth c Q g mid cells slots h q) : WA p l e R s m args below meth c Q g mid cells slots pc ls st h := by
  intro H locs la h1 h2 h3
  obtain ⟨x, r, rfl, rfl⟩ : ∃ x r, st = .int x :: r ∧ q = (pc + 1, ls, .int (-x) :: r, h) := by
    replace hs : o_18 a b cc pc ls st h = some q := hs
    unfold o_18 at hs
    split at hs
    · cases hs; exact ⟨_, _, rfl, rfl⟩
    · cases hs
  exact lv_ineg X.1 X.2.1 (dq_eq hok) (k _ _ rfl rfl H locs la h1 h2 h3)

theorem sn_24 (X : Cx p R s m args meth c g mid) (hok : okI mid pc (24, a, b, cc) = true) (hs : stp 24 a b cc pc ls st h = some q) (k : KK p l e R s m args below meth c Q g mid cells slots h q) : WA p l e R s m args below meth c Q g mid cells slots pc ls st h := by
  intro H locs la h1 h2 h3
  obtain ⟨y, x, r, rfl, rfl⟩ : ∃ y x r, st = .long y :: .long x :: r ∧ q = (pc + 1, ls, .long (x + y) :: r, h) := by
    replace hs : o_24 a b cc pc ls st h = some q := hs
    unfold o_24 at hs
    split at hs
    · cases hs; exact ⟨_, _, _, rfl, rfl⟩
    · cases hs
  exact lv_ladd X.1 X.2.1 (dq_eq hok) (k _ _ rfl rfl H locs la h1 h2 h3)

theorem sn_25 (X : Cx p R s m args meth c g mid) (hok : okI mid pc (25, a, b, cc) = true) (hs : stp 25 a b cc pc ls st h = some q) (k : KK p l e R s m args below meth c Q g mid cells slots h q) : WA p l e R s m args below meth c Q g mid cells slots pc ls st h := by
  intro H locs la h1 h2 h3
  obtain ⟨y, x, r, rfl, rfl⟩ : ∃ y x r, st = .long y :: .long x :: r ∧ q = (pc + 1, ls, .int (lg_cmp x y) :: r, h) := by
    replace hs : o_25 a b cc pc ls st h = some q := hs
    unfold o_25 at hs
    split at hs
    · cases hs; exact ⟨_, _, _, rfl, rfl⟩
    · cases hs
  exact W.lcmp X.1 X.2.1 (dq_eq hok) (k _ _ rfl rfl H locs la h1 h2 h3)

theorem sn_26 (X : Cx p R s m args meth c g mid) (hok : okI mid pc (26, a, b, cc) = true) (hs : stp 26 a b cc pc ls st h = some q) (k : KK p l e R s m args below meth c Q g mid cells slots h q) : WA p l e R s m args below meth c Q g mid cells slots pc ls st h := by
  intro H locs la h1 h2 h3
  obtain ⟨v, r, rfl, hc, rfl⟩ : ∃ v r, st = v :: r ∧ c1 v = true ∧ q = (pc + 1, ls, v :: v :: r, h) := by
    replace hs : o_26 a b cc pc ls st h = some q := hs
    unfold o_26 at hs
    split at hs
    · split at hs
      · rename_i hc; cases hs; exact ⟨_, _, rfl, hc, rfl⟩
      · cases hs
    · cases hs
  exact lv_dup X.1 X.2.1 (dq_eq hok) (by rw [tr_cat]; exact eq_of_beq hc) (k _ _ rfl rfl H locs la h1 h2 h3)

theorem sn_27 (X : Cx p R s m args meth c g mid) (hok : okI mid pc (27, a, b, cc) = true) (hs : stp 27 a b cc pc ls st h = some q) (k : KK p l e R s m args below meth c Q g mid cells slots h q) : WA p l e R s m args below meth c Q g mid cells slots pc ls st h := by
  intro H locs la h1 h2 h3
  obtain ⟨v, w, r, rfl, hc, rfl⟩ : ∃ v w r, st = v :: w :: r ∧ (c1 v = true ∧ c1 w = true) ∧ q = (pc + 1, ls, v :: w :: v :: w :: r, h) := by
    replace hs : o_27 a b cc pc ls st h = some q := hs
    unfold o_27 at hs
    split at hs
    · split at hs
      · rename_i hc; cases hs; exact ⟨_, _, _, rfl, hc, rfl⟩
      · cases hs
    · cases hs
  exact lv_dup2_11 X.1 X.2.1 (dq_eq hok) (by rw [tr_cat]; exact eq_of_beq hc.1) (by rw [tr_cat]; exact eq_of_beq hc.2) (k _ _ rfl rfl H locs la h1 h2 h3)

theorem sn_28 (X : Cx p R s m args meth c g mid) (hok : okI mid pc (28, a, b, cc) = true) (hs : stp 28 a b cc pc ls st h = some q) (k : KK p l e R s m args below meth c Q g mid cells slots h q) : WA p l e R s m args below meth c Q g mid cells slots pc ls st h := by
  intro H locs la h1 h2 h3
  obtain ⟨v, r, rfl, hc, rfl⟩ : ∃ v r, st = v :: r ∧ c1 v = true ∧ q = (pc + 1, ls, r, h) := by
    replace hs : o_28 a b cc pc ls st h = some q := hs
    unfold o_28 at hs
    split at hs
    · split at hs
      · rename_i hc; cases hs; exact ⟨_, _, rfl, hc, rfl⟩
      · cases hs
    · cases hs
  exact lv_pop X.1 X.2.1 (dq_eq hok) (by rw [tr_cat]; exact eq_of_beq hc) (k _ _ rfl rfl H locs la h1 h2 h3)

theorem sn_29 (X : Cx p R s m args meth c g mid) (hok : okI mid pc (29, a, b, cc) = true) (hs : stp 29 a b cc pc ls st h = some q) (k : KK p l e R s m args below meth c Q g mid cells slots h q) : WA p l e R s m args below meth c Q g mid cells slots pc ls st h := by
  obtain ⟨hd, ho⟩ := Bool.and_eq_true_iff.mp hok
  intro H locs la h1 h2 h3
  obtain ⟨x, r, rfl, rfl⟩ : ∃ x r, st = .int x :: r ∧ q = (if icm a x 0 = true then b else pc + 3, ls, r, h) := by
    replace hs : o_29 a b cc pc ls st h = some q := hs
    unfold o_29 at hs
    split at hs
    · cases hs; exact ⟨_, _, rfl, rfl⟩
    · cases hs
  obtain ⟨hpc, ha⟩ : (pc : Int) + cc = (b : Int) ∧ a < 6 := of_decide_eq_true ho
  clear ho
  have k := k _ _ rfl rfl H locs la h1 h2 h3
  dsimp only at k
  match a, ha with
  | 0, _ =>
    refine lv_if_eq X.1 X.2.1 (dq_eq hd) hpc (fun hz => ?_) (fun hz => ?_)
    · rw [if_pos (show icm 0 x 0 = true from decide_eq_true hz)] at k; exact k
    · rw [if_neg (show ¬ icm 0 x 0 = true from fun z => hz (of_decide_eq_true z))] at k; exact k
  | 1, _ =>
    refine lv_if_ne X.1 X.2.1 (dq_eq hd) hpc (fun hz => ?_) (fun hz => ?_)
    · rw [if_pos (show icm 1 x 0 = true from decide_eq_true hz)] at k; exact k
    · rw [if_neg (show ¬ icm 1 x 0 = true from fun z => (of_decide_eq_true z : ¬ x = 0) hz)] at k; exact k
  | 2, _ =>
    refine lv_if_lt X.1 X.2.1 (dq_eq hd) hpc (fun hz => ?_) (fun hz => ?_)
    · rw [if_pos (show icm 2 x 0 = true from decide_eq_true hz)] at k; exact k
    · rw [if_neg (show ¬ icm 2 x 0 = true from fun z => hz (of_decide_eq_true z))] at k; exact k
  | 3, _ =>
    refine lv_if_ge X.1 X.2.1 (dq_eq hd) hpc (fun hz => ?_) (fun hz => ?_)
    · rw [if_pos (show icm 3 x 0 = true from decide_eq_true hz)] at k; exact k
    · rw [if_neg (show ¬ icm 3 x 0 = true from fun z => hz (of_decide_eq_true z))] at k; exact k
  | 4, _ =>
    refine lv_if_gt X.1 X.2.1 (dq_eq hd) hpc (fun hz => ?_) (fun hz => ?_)
    · rw [if_pos (show icm 4 x 0 = true from decide_eq_true hz)] at k; exact k
    · rw [if_neg (show ¬ icm 4 x 0 = true from fun z => hz (of_decide_eq_true z))] at k; exact k
  | 5, _ =>
    refine lv_if_le X.1 X.2.1 (dq_eq hd) hpc (fun hz => ?_) (fun hz => ?_)
    · rw [if_pos (show icm 5 x 0 = true from decide_eq_true hz)] at k; exact k
    · rw [if_neg (show ¬ icm 5 x 0 = true from fun z => hz (of_decide_eq_true z))] at k; exact k
  | n + 6, h => exact absurd h (by omega)

theorem sn_30 (X : Cx p R s m args meth c g mid) (hok : okI mid pc (30, a, b, cc) = true) (hs : stp 30 a b cc pc ls st h = some q) (k : KK p l e R s m args below meth c Q g mid cells slots h q) : WA p l e R s m args below meth c Q g mid cells slots pc ls st h := by
  obtain ⟨hd, ho⟩ := Bool.and_eq_true_iff.mp hok
  intro H locs la h1 h2 h3
  obtain ⟨y, x, r, rfl, rfl⟩ : ∃ y x r, st = .int y :: .int x :: r ∧ q = (if icm a x y = true then b else pc + 3, ls, r, h) := by
    replace hs : o_30 a b cc pc ls st h = some q := hs
    unfold o_30 at hs
    split at hs
    · cases hs; exact ⟨_, _, _, rfl, rfl⟩
    · cases hs
  obtain ⟨hpc, ha⟩ : (pc : Int) + cc = (b : Int) ∧ a < 6 := of_decide_eq_true ho
  clear ho
  have k := k _ _ rfl rfl H locs la h1 h2 h3
  dsimp only at k
  match a, ha with
  | 0, _ =>
    refine lv_icmp_eq X.1 X.2.1 (dq_eq hd) hpc (fun hz => ?_) (fun hz => ?_)
    · rw [if_pos (show icm 0 x y = true from decide_eq_true hz)] at k; exact k
    · rw [if_neg (show ¬ icm 0 x y = true from fun z => hz (of_decide_eq_true z))] at k; exact k
  | 1, _ =>
    refine lv_icmp_ne X.1 X.2.1 (dq_eq hd) hpc (fun hz => ?_) (fun hz => ?_)
    · rw [if_pos (show icm 1 x y = true from decide_eq_true hz)] at k; exact k
    · rw [if_neg (show ¬ icm 1 x y = true from fun z => (of_decide_eq_true z : ¬ x = y) hz)] at k; exact k
  | 2, _ =>
    refine lv_icmp_lt X.1 X.2.1 (dq_eq hd) hpc (fun hz => ?_) (fun hz => ?_)
    · rw [if_pos (show icm 2 x y = true from decide_eq_true hz)] at k; exact k
    · rw [if_neg (show ¬ icm 2 x y = true from fun z => hz (of_decide_eq_true z))] at k; exact k
  | 3, _ =>
    refine lv_icmp_ge X.1 X.2.1 (dq_eq hd) hpc (fun hz => ?_) (fun hz => ?_)
    · rw [if_pos (show icm 3 x y = true from decide_eq_true hz)] at k; exact k
    · rw [if_neg (show ¬ icm 3 x y = true from fun z => hz (of_decide_eq_true z))] at k; exact k
  | 4, _ =>
    refine lv_icmp_gt X.1 X.2.1 (dq_eq hd) hpc (fun hz => ?_) (fun hz => ?_)
    · rw [if_pos (show icm 4 x y = true from decide_eq_true hz)] at k; exact k
    · rw [if_neg (show ¬ icm 4 x y = true from fun z => hz (of_decide_eq_true z))] at k; exact k
  | 5, _ =>
    refine lv_icmp_le X.1 X.2.1 (dq_eq hd) hpc (fun hz => ?_) (fun hz => ?_)
    · rw [if_pos (show icm 5 x y = true from decide_eq_true hz)] at k; exact k
    · rw [if_neg (show ¬ icm 5 x y = true from fun z => hz (of_decide_eq_true z))] at k; exact k
  | n + 6, h => exact absurd h (by omega)

theorem sn_31 (X : Cx p R s m args meth c g mid) (hok : okI mid pc (31, a, b, cc) = true) (hs : stp 31 a b cc pc ls st h = some q) (k : KK p l e R s m args below meth c Q g mid cells slots h q) : WA p l e R s m args below meth c Q g mid cells slots pc ls st h := by
  obtain ⟨hd, ho⟩ := Bool.and_eq_true_iff.mp hok
  intro H locs la h1 h2 h3
  cases hs
  exact lv_goto X.1 X.2.1 (dq_eq hd) (of_decide_eq_true ho) (k _ _ rfl rfl H locs la h1 h2 h3)

theorem sn_32 (X : Cx p R s m args meth c g mid) (hok : okI mid pc (32, a, b, cc) = true) (hs : stp 32 a b cc pc ls st h = some q) (k : KK p l e R s m args below meth c Q g mid cells slots h q) : WA p l e R s m args below meth c Q g mid cells slots pc ls st h := by
  intro H locs la h1 h2 h3
  obtain ⟨x, r, rfl, rfl⟩ : ∃ x r, st = .ref x :: r ∧ q = (pc + 3, ls, r, h) := by
    replace hs : o_32 a b cc pc ls st h = some q := hs
    unfold o_32 at hs
    split at hs
    · cases hs; exact ⟨_, _, rfl, rfl⟩
    · cases hs
  exact lv_ifnull X.1 X.2.1 (dq_eq hok) (k _ _ rfl rfl H locs la h1 h2 h3)

theorem sn_33 (X : Cx p R s m args meth c g mid) (hok : okI mid pc (33, a, b, cc) = true) (hs : stp 33 a b cc pc ls st h = some q) (k : KK p l e R s m args below meth c Q g mid cells slots h q) : WA p l e R s m args below meth c Q g mid cells slots pc ls st h := by
  obtain ⟨hd, ho⟩ := Bool.and_eq_true_iff.mp hok
  intro H locs la h1 h2 h3
  obtain ⟨x, r, rfl, rfl⟩ : ∃ x r, st = .ref x :: r ∧ q = (b, ls, r, h) := by
    replace hs : o_33 a b cc pc ls st h = some q := hs
    unfold o_33 at hs
    split at hs
    · cases hs; exact ⟨_, _, rfl, rfl⟩
    · cases hs
  exact lv_ifnonnull X.1 X.2.1 (dq_eq hd) (of_decide_eq_true ho) (k _ _ rfl rfl H locs la h1 h2 h3)

theorem sn_34 (X : Cx p R s m args meth c g mid) (hok : okI mid pc (34, a, b, cc) = true) (hs : stp 34 a b cc pc ls st h = some q) (k : KK p l e R s m args below meth c Q g mid cells slots h q) : WA p l e R s m args below meth c Q g mid cells slots pc ls st h := by
  obtain ⟨hd, ht⟩ := Bool.and_eq_true_iff.mp hok
  obtain ⟨hd, ho⟩ := Bool.and_eq_true_iff.mp hd
  intro H locs la h1 h2 h3
  obtain ⟨x, r, rfl, rfl⟩ : ∃ x r, st = .int x :: r ∧ q = (((pc : Int) + Op.lookupswitch.offset (tx_sw a).2 (tx_sw a).1 x.toInt).toNat, ls, r, h) := by
    replace hs : o_34 a b cc pc ls st h = some q := hs
    unfold o_34 at hs
    split at hs
    · cases hs; exact ⟨_, _, rfl, rfl⟩
    · cases hs
  obtain ⟨ho, hn⟩ := of_decide_eq_true ho
  have ht := List.all_eq_true.mp ht
  have k := k _ _ rfl rfl H locs la h1 h2 h3
  dsimp only at k
  rw [ho] at k
  dsimp only at k
  rw [swP_off] at k
  by_cases hx : (tx_swT a).2.1 ≤ x.toInt ∧ x.toInt < (tx_swT a).2.1 + ((tx_swT a).2.2.2.1.toList.length : Int)
  · rw [if_pos hx] at k
    have hlt : (x.toInt - (tx_swT a).2.1).toNat < (tx_swT a).2.2.2.1.toList.length := by omega
    have hg : (tx_swT a).2.2.2.1.toList[(x.toInt - (tx_swT a).2.1).toNat]? = some (tx_swT a).2.2.2.1.toList[(x.toInt - (tx_swT a).2.1).toNat] := List.getElem?_eq_getElem hlt
    rw [List.getD_eq_getElem?_getD, hg] at k
    have hpos := of_decide_eq_true (ht _ (List.mem_cons_of_mem _ (List.mem_of_getElem? hg)))
    refine lv_tableIn X.1 X.2.1 (dq_eq hd) (by omega) (by omega) (off := (tx_swT a).2.2.2.1.toList[(x.toInt - (tx_swT a).2.1).toNat]) (by rw [← Array.getElem?_toList]; exact hg) (Int.toNat_of_nonneg hpos).symm k
  · rw [if_neg hx] at k
    have hpos := of_decide_eq_true (ht _ List.mem_cons_self)
    refine lv_tableOut X.1 X.2.1 (dq_eq hd) (by omega) (Int.toNat_of_nonneg hpos).symm k

theorem sn_35 (X : Cx p R s m args meth c g mid) (hok : okI mid pc (35, a, b, cc) = true) (hs : stp 35 a b cc pc ls st h = some q) (k : KK p l e R s m args below meth c Q g mid cells slots h q) : WA p l e R s m args below meth c Q g mid cells slots pc ls st h := by
  obtain ⟨hd, ht⟩ := Bool.and_eq_true_iff.mp hok
  obtain ⟨hd, hsrt⟩ := Bool.and_eq_true_iff.mp hd
  obtain ⟨hd, ho⟩ := Bool.and_eq_true_iff.mp hd
  intro H locs la h1 h2 h3
  obtain ⟨x, r, rfl, rfl⟩ : ∃ x r, st = .int x :: r ∧ q = (((pc : Int) + Op.lookupswitch.offset (tx_sw a).2 (tx_sw a).1 x.toInt).toNat, ls, r, h) := by
    replace hs : o_35 a b cc pc ls st h = some q := hs
    unfold o_35 at hs
    split at hs
    · cases hs; exact ⟨_, _, rfl, rfl⟩
    · cases hs
  have ho := of_decide_eq_true ho
  have ht := List.all_eq_true.mp ht
  have k := k _ _ rfl rfl H locs la h1 h2 h3
  dsimp only at k
  rw [ho] at k
  dsimp only at k
  have key : ∀ (l : List (Int × Int)) (d y : Int), Op.lookupswitch.offset l d y ∈ d :: l.map (·.2) := by
    intro l
    induction l with
    | nil => intro d y; exact List.mem_cons_self
    | cons u t ih =>
      intro d y
      obtain ⟨u1, u2⟩ := u
      rw [Op.lookupswitch.offset_cons]
      by_cases e : u1 = y
      · rw [if_pos e]; exact List.mem_cons_of_mem _ List.mem_cons_self
      · rw [if_neg e]
        rcases List.mem_cons.mp (ih d y) with h | h
        · rw [h]; exact List.mem_cons_self
        · exact List.mem_cons_of_mem _ (List.mem_cons_of_mem _ h)
  have hpos := of_decide_eq_true (ht _ (key (tx_swL a).2.1.toList (tx_swL a).1 x.toInt))
  exact lv_lookup X.1 X.2.1 (dq_eq hd) hsrt rfl (Int.toNat_of_nonneg hpos).symm k

theorem sn_36 (X : Cx p R s m args meth c g mid) (hok : okI mid pc (36, a, b, cc) = true) (hs : stp 36 a b cc pc ls st h = some q) (k : KK p l e R s m args below meth c Q g mid cells slots h q) : WA p l e R s m args below meth c Q g mid cells slots pc ls st h := by
  obtain ⟨hd, ho⟩ := Bool.and_eq_true_iff.mp hok
  intro H locs la h1 h2 h3
  obtain ⟨z, r, v, rfl, hc, rfl⟩ : ∃ z r v, st = .ref z :: r ∧ gF h z (b / 64) (b % 64) = some v ∧ q = (pc + 3, ls, v :: r, h) := by
    replace hs : o_36 a b cc pc ls st h = some q := hs
    unfold o_36 at hs
    split at hs
    · rename_i z r
      cases hv : gF h z (b / 64) (b % 64) with
      | none => rw [hv] at hs; cases hs
      | some v => rw [hv] at hs; cases hs; exact ⟨_, _, v, rfl, hv, rfl⟩
    · cases hs
  obtain ⟨fs, hz, hv⟩ := gF_inv hc
  obtain ⟨k0, rfl⟩ := h1.in hz (by intro L xs z; cases z)
  obtain ⟨hci, hj, hlk⟩ := tx_F_ok _ (of_decide_eq_true ho)
  exact va_get X.1 X.2.1 X.2.2.2.2.1 (tx_in _ hci) X.2.2.2.1 X.2.2.2.2.2.1.1 h1.2.1 k0 (wsO_get hz) (tx_cl _ hci) _ hj (X.2.2.2.2.1 _ hlk) (fun _ h => h) (by rw [List.getElem?_map, hv]; rfl) (dq_eq hd) (k _ _ rfl rfl H locs la h1 h2 h3)

theorem sn_37 (X : Cx p R s m args meth c g mid) (hok : okI mid pc (37, a, b, cc) = true) (hs : stp 37 a b cc pc ls st h = some q) (k : KK p l e R s m args below meth c Q g mid cells slots h q) : WA p l e R s m args below meth c Q g mid cells slots pc ls st h := by
  obtain ⟨hd, hf⟩ := Bool.and_eq_true_iff.mp hok
  obtain ⟨hd, ho⟩ := Bool.and_eq_true_iff.mp hd
  intro H locs la h1 h2 h3
  obtain ⟨v, z, r, h', rfl, hc, rfl⟩ : ∃ v z r h', st = v :: .ref z :: r ∧ pF h z (b / 64) (b % 64) v = some h' ∧ q = (pc + 3, ls, r, h') := by
    replace hs : o_37 a b cc pc ls st h = some q := hs
    unfold o_37 at hs
    split at hs
    · rename_i v z r
      cases hv : pF h z (b / 64) (b % 64) v with
      | none => rw [hv] at hs; cases hs
      | some h' => rw [hv] at hs; cases hs; exact ⟨_, _, _, h', rfl, hv, rfl⟩
    · cases hs
  obtain ⟨fs, hz, hl, hn, hfit, rfl⟩ := pF_inv hc
  obtain ⟨k0, rfl⟩ := h1.in hz (by intro L xs z; cases z)
  obtain ⟨hci, hj, hlk⟩ := tx_F_ok _ (of_decide_eq_true ho)
  refine w_put X h1 h2 hz hci hj hl hlk (by
    rcases Bool.or_eq_true_iff.mp hf with f | f
    · exact Or.inl (of_decide_eq_true f)
    · exact Or.inr (of_decide_eq_true f)) hn hfit (dq_eq hd) (fun H1 locs1 g1 g2 => ?_)
  exact k cells slots (by dsimp only; rw [List.length_set]) (by dsimp only; rw [sl_set hz (by simp [csz])]) H1 locs1 la g1 g2 h3

theorem sn_38 (X : Cx p R s m args meth c g mid) (hok : okI mid pc (38, a, b, cc) = true) (hs : stp 38 a b cc pc ls st h = some q) (k : KK p l e R s m args below meth c Q g mid cells slots h q) : WA p l e R s m args below meth c Q g mid cells slots pc ls st h := by
  intro H locs la h1 h2 h3
  obtain ⟨i, z, r, x, rfl, hc, rfl⟩ : ∃ i z r x, st = .int i :: .ref z :: r ∧ gA h z i = some x ∧ q = (pc + 1, ls, .int x :: r, h) := by
    replace hs : o_38 a b cc pc ls st h = some q := hs
    unfold o_38 at hs
    split at hs
    · rename_i i z r
      cases hv : gA h z i with
      | none => rw [hv] at hs; cases hs
      | some x => rw [hv] at hs; cases hs; exact ⟨_, _, _, x, rfl, hv, rfl⟩
    · cases hs
  obtain ⟨kd, n, f, hz, hk1, hin, rfl⟩ := gA_inv hc
  have k := k _ _ rfl rfl H locs la h1 h2 h3
  cases z with
  | zero =>
    obtain ⟨-, -, L, xs, g3, scr, e1, e2, e3, e4, e5⟩ := h1
    have e0 := Option.some.inj (hz.symm.trans g3)
    cases e0
    exact W.iald (v := .int (f i.toNatClampNeg)) X.1 X.2.1 e1 e2 e3 (by rw [e4]; exact hin) (e5 _ (Nat.not_le.mp fun q => hin (Or.inr q))) rfl rfl (dq_eq hok) k
  | succ k0 =>
    have hw := wsO_get (g := g) hz
    unfold enc encE at hw
    dsimp only at hw
    rw [if_neg hk1] at hw
    exact va_iald X.1 X.2.1 X.2.2.2.2.2.1.1 h1.2.1 k0 0 hw rfl hin (dq_eq hok) k

theorem sn_39 (X : Cx p R s m args meth c g mid) (hok : okI mid pc (39, a, b, cc) = true) (hs : stp 39 a b cc pc ls st h = some q) (k : KK p l e R s m args below meth c Q g mid cells slots h q) : WA p l e R s m args below meth c Q g mid cells slots pc ls st h := by
  intro H locs la h1 h2 h3
  obtain ⟨x, i, z, r, h', rfl, hc, rfl⟩ : ∃ x i z r h', st = .int x :: .int i :: .ref z :: r ∧ pA h z i x = some h' ∧ q = (pc + 1, ls, r, h') := by
    replace hs : o_39 a b cc pc ls st h = some q := hs
    unfold o_39 at hs
    split at hs
    · rename_i x i z r
      cases hv : pA h z i x with
      | none => rw [hv] at hs; cases hs
      | some h' => rw [hv] at hs; cases hs; exact ⟨_, _, _, _, h', rfl, hv, rfl⟩
    · cases hs
  obtain ⟨n, f, hz, hin, rfl⟩ := pA_inv hc
  obtain ⟨k0, rfl⟩ := h1.in hz (by intro L xs z; cases z)
  refine w_iast X h1 h2 hz hin (dq_eq hok) (fun H1 locs1 g1 g2 => ?_)
  exact k cells slots (by dsimp only; rw [List.length_set]) (by dsimp only; rw [sl_set hz (by rfl)]) H1 locs1 la g1 g2 h3

theorem sn_40 (X : Cx p R s m args meth c g mid) (hok : okI mid pc (40, a, b, cc) = true) (hs : stp 40 a b cc pc ls st h = some q) (k : KK p l e R s m args below meth c Q g mid cells slots h q) : WA p l e R s m args below meth c Q g mid cells slots pc ls st h := by
  intro H locs la h1 h2 h3
  obtain ⟨i, z, r, x, rfl, hc, rfl⟩ : ∃ i z r x, st = .int i :: .ref z :: r ∧ gZ h z i = some x ∧ q = (pc + 1, ls, .int x :: r, h) := by
    replace hs : o_40 a b cc pc ls st h = some q := hs
    unfold o_40 at hs
    split at hs
    · rename_i i z r
      cases hv : gZ h z i with
      | none => rw [hv] at hs; cases hs
      | some x => rw [hv] at hs; cases hs; exact ⟨_, _, _, x, rfl, hv, rfl⟩
    · cases hs
  obtain ⟨n, f, hz, hin, rfl⟩ := gZ_inv hc
  obtain ⟨k0, rfl⟩ := h1.in hz (by intro L xs z; cases z)
  exact va_zald X.1 X.2.1 X.2.2.2.2.2.1.1 h1.2.1 k0 1 (wsO_get hz) rfl hin (dq_eq hok) (k _ _ rfl rfl H locs la h1 h2 h3)

theorem sn_41 (X : Cx p R s m args meth c g mid) (hok : okI mid pc (41, a, b, cc) = true) (hs : stp 41 a b cc pc ls st h = some q) (k : KK p l e R s m args below meth c Q g mid cells slots h q) : WA p l e R s m args below meth c Q g mid cells slots pc ls st h := by
  intro H locs la h1 h2 h3
  obtain ⟨x, i, z, r, h', rfl, hc, rfl⟩ : ∃ x i z r h', st = .int x :: .int i :: .ref z :: r ∧ pZ h z i x = some h' ∧ q = (pc + 1, ls, r, h') := by
    replace hs : o_41 a b cc pc ls st h = some q := hs
    unfold o_41 at hs
    split at hs
    · rename_i x i z r
      cases hv : pZ h z i x with
      | none => rw [hv] at hs; cases hs
      | some h' => rw [hv] at hs; cases hs; exact ⟨_, _, _, _, h', rfl, hv, rfl⟩
    · cases hs
  obtain ⟨n, f, hz, hin, hz1, rfl⟩ := pZ_inv hc
  obtain ⟨k0, rfl⟩ := h1.in hz (by intro L xs z; cases z)
  refine w_zast X h1 h2 hz hin hz1 (dq_eq hok) (fun H1 locs1 g1 g2 => ?_)
  exact k cells slots (by dsimp only; rw [List.length_set]) (by dsimp only; rw [sl_set hz (by rfl)]) H1 locs1 la g1 g2 h3

theorem sn_42 (X : Cx p R s m args meth c g mid) (hok : okI mid pc (42, a, b, cc) = true) (hs : stp 42 a b cc pc ls st h = some q) (k : KK p l e R s m args below meth c Q g mid cells slots h q) : WA p l e R s m args below meth c Q g mid cells slots pc ls st h := by
  intro H locs la h1 h2 h3
  obtain ⟨i, z, r, v, rfl, hc, rfl⟩ : ∃ i z r v, st = .int i :: .ref z :: r ∧ gQ h z i = some v ∧ q = (pc + 1, ls, v :: r, h) := by
    replace hs : o_42 a b cc pc ls st h = some q := hs
    unfold o_42 at hs
    split at hs
    · rename_i i z r
      cases hv : gQ h z i with
      | none => rw [hv] at hs; cases hs
      | some x => rw [hv] at hs; cases hs; exact ⟨_, _, _, x, rfl, hv, rfl⟩
    · cases hs
  obtain ⟨n, f, hz, hin, rfl⟩ := gQ_inv hc
  obtain ⟨k0, rfl⟩ := h1.in hz (by intro L xs z; cases z)
  have k := k _ _ rfl rfl H locs la h1 h2 h3
  refine va_aldq X.1 X.2.1 X.2.2.2.2.2.1.1 h1.2.1 k0 2 (wsO_get hz) rfl hin (dq_eq hok) (W.eq ?_ k)
  show F0 m _ la (va_rf ((f i.toNatClampNeg).map (ad g.2.2.2.2.1 g.2.2.2.2.2)) :: _) = F0 m _ la (tr _ _ (va_rf (f i.toNatClampNeg)) :: _)
  cases f i.toNatClampNeg <;> rfl

theorem sn_43 (X : Cx p R s m args meth c g mid) (hok : okI mid pc (43, a, b, cc) = true) (hs : stp 43 a b cc pc ls st h = some q) (k : KK p l e R s m args below meth c Q g mid cells slots h q) : WA p l e R s m args below meth c Q g mid cells slots pc ls st h := by
  intro H locs la h1 h2 h3
  obtain ⟨v, i, z, r, h', rfl, hc, rfl⟩ : ∃ v i z r h', st = .ref v :: .int i :: .ref z :: r ∧ pQ h z i v = some h' ∧ q = (pc + 1, ls, r, h') := by
    replace hs : o_43 a b cc pc ls st h = some q := hs
    unfold o_43 at hs
    split at hs
    · rename_i v i z r
      cases hv : pQ h z i v with
      | none => rw [hv] at hs; cases hs
      | some h' => rw [hv] at hs; cases hs; exact ⟨_, _, _, _, h', rfl, hv, rfl⟩
    · cases hs
  obtain ⟨n, f, fs, hz, hv, hin, rfl⟩ := pQ_inv hc
  obtain ⟨k0, rfl⟩ := h1.in hz (by intro L xs z; cases z)
  obtain ⟨v0, rfl⟩ := h1.in hv (by intro L xs z; cases z)
  refine w_qast X h1 h2 hz hv hin (dq_eq hok) (fun H1 locs1 g1 g2 => ?_)
  exact k cells slots (by dsimp only; rw [List.length_set]) (by dsimp only; rw [sl_set hz (by rfl)]) H1 locs1 la g1 g2 h3

theorem sn_44 (X : Cx p R s m args meth c g mid) (hok : okI mid pc (44, a, b, cc) = true) (hs : stp 44 a b cc pc ls st h = some q) (k : KK p l e R s m args below meth c Q g mid cells slots h q) : WA p l e R s m args below meth c Q g mid cells slots pc ls st h := by
  intro H locs la h1 h2 h3
  obtain ⟨z, r, x, rfl, hc, rfl⟩ : ∃ z r x, st = .ref z :: r ∧ gL h z = some x ∧ q = (pc + 1, ls, .int x :: r, h) := by
    replace hs : o_44 a b cc pc ls st h = some q := hs
    unfold o_44 at hs
    split at hs
    · rename_i z r
      cases hv : gL h z with
      | none => rw [hv] at hs; cases hs
      | some x => rw [hv] at hs; cases hs; exact ⟨_, _, x, rfl, hv, rfl⟩
    · cases hs
  obtain ⟨rfl, kd, n, f, hz, rfl⟩ := gL_inv hc
  have k := k _ _ rfl rfl H locs la h1 h2 h3
  obtain ⟨hsz, hP, L, xs, g3, scr, e1, e2, e3, e4, e5⟩ := id h1
  have e0 := Option.some.inj (hz.symm.trans g3)
  cases e0
  exact W.alen X.1 X.2.1 e1 e2 (by rw [e4]) rfl rfl (dq_eq hok) k
theorem HS.pos {H : Heap} (X : HS g h s H) : 0 < h.length := by
  obtain ⟨-, -, L, xs, h3, -⟩ := X
  exact (List.getElem?_eq_some_iff.mp h3).1
theorem ad_len {H : Heap} (X : HS g h s H) : ad g.2.2.2.2.1 g.2.2.2.2.2 h.length = g.2.2.2.2.2 + (h.length - 1) := by
  have := X.pos
  obtain ⟨k, hk⟩ : ∃ k, h.length = k + 1 := ⟨h.length - 1, by omega⟩
  rw [hk]
  rfl
/-- room for what the step makes -/
def RM (R : Room) (cells slots : Nat) (h h' : List Cel) : Prop := cells + h'.length ≤ R.cells + h.length ∧ slots + sl h' ≤ R.slots + sl h
theorem sn_45 (X : Cx p R s m args meth c g mid) (hok : okI mid pc (45, a, b, cc) = true) (hs : stp 45 a b cc pc ls st h = some q) (hr : RM R cells slots h q.2.2.2) (k : KK p l e R s m args below meth c Q g mid cells slots h q) : WA p l e R s m args below meth c Q g mid cells slots pc ls st h := by
  intro H locs la h1 h2 h3
  obtain ⟨n, r, rfl, hc, rfl⟩ : ∃ n r, st = .int n :: r ∧ (¬ (n < 0 ∨ 1000 < n.toNatClampNeg)) ∧ q = (pc + 2, ls, .ref h.length :: r, h ++ [.inr (.inl (a, n.toNatClampNeg, fun _ => 0))]) := by
    replace hs : o_45 a b cc pc ls st h = some q := hs
    unfold o_45 at hs
    split at hs
    · split at hs
      · cases hs
      · rename_i hc; cases hs; exact ⟨_, _, rfl, hc, rfl⟩
    · cases hs
  have ha : (a = 0 ∨ a = 1) ∧ decode (bO mid) pc = .ok (.newarray (if a = 0 then .int else .boolean), 2) := by
    by_cases e : a = 0
    · subst e; exact ⟨Or.inl rfl, dq_eq hok⟩
    · have hok : (if a = 0 then dq mid pc (.newarray .int) 2 else (dq mid pc (.newarray .boolean) 2 && decide (a = 1))) = true := hok
      rw [if_neg e] at hok
      obtain ⟨hd, ho⟩ := Bool.and_eq_true_iff.mp hok
      have ho := of_decide_eq_true ho
      subst ho
      exact ⟨Or.inr rfl, dq_eq hd⟩
  obtain ⟨hr1, hr2⟩ := hr
  dsimp only at hr1 hr2
  rw [List.length_append, List.length_singleton] at hr1
  rw [sl_app] at hr2
  have hcz : csz (.inr (.inl (a, n.toNatClampNeg, fun _ => 0))) = n.toNatClampNeg := rfl
  rw [hcz] at hr2
  refine w_newa X h1 h2 ha.1 (fun z => hc (Or.inl z)) (Nat.not_lt.mp fun z => hc (Or.inr z)) (by omega) (by omega) ha.2 (fun H1 locs1 g1 g2 => ?_)
  have k := k (cells + 1) (slots + n.toNatClampNeg) (by dsimp only; rw [List.length_append, List.length_singleton]; omega) (by dsimp only; rw [sl_app, hcz]; omega) H1 locs1 la g1 g2 h3
  refine W.eq ?_ k
  show F0 m _ la (.ref _ :: _) = F0 m _ la (.ref (ad _ _ h.length) :: _)
  rw [ad_len h1]
theorem sn_46 (X : Cx p R s m args meth c g mid) (hok : okI mid pc (46, a, b, cc) = true) (hs : stp 46 a b cc pc ls st h = some q) (hr : RM R cells slots h q.2.2.2) (k : KK p l e R s m args below meth c Q g mid cells slots h q) : WA p l e R s m args below meth c Q g mid cells slots pc ls st h := by
  obtain ⟨hd, ho⟩ := Bool.and_eq_true_iff.mp hok
  intro H locs la h1 h2 h3
  obtain ⟨n, r, rfl, hc, rfl⟩ : ∃ n r, st = .int n :: r ∧ (¬ (n < 0 ∨ 1000 < n.toNatClampNeg)) ∧ q = (pc + 3, ls, .ref h.length :: r, h ++ [.inr (.inr (n.toNatClampNeg, fun _ => none))]) := by
    replace hs : o_46 a b cc pc ls st h = some q := hs
    unfold o_46 at hs
    split at hs
    · split at hs
      · cases hs
      · rename_i hc; cases hs; exact ⟨_, _, rfl, hc, rfl⟩
    · cases hs
  obtain ⟨hr1, hr2⟩ := hr
  dsimp only at hr1 hr2
  rw [List.length_append, List.length_singleton] at hr1
  rw [sl_app] at hr2
  have hcz : csz (.inr (.inr (n.toNatClampNeg, fun _ => none))) = n.toNatClampNeg := rfl
  rw [hcz] at hr2
  refine w_newq X h1 h2 (tx_K_ok _ (of_decide_eq_true ho)) (fun z => hc (Or.inl z)) (Nat.not_lt.mp fun z => hc (Or.inr z)) (by omega) (by omega) (dq_eq hd) (fun H1 locs1 g1 g2 => ?_)
  have k := k (cells + 1) (slots + n.toNatClampNeg) (by dsimp only; rw [List.length_append, List.length_singleton]; omega) (by dsimp only; rw [sl_app, hcz]; omega) H1 locs1 la g1 g2 h3
  refine W.eq ?_ k
  show F0 m _ la (.ref _ :: _) = F0 m _ la (.ref (ad _ _ h.length) :: _)
  rw [ad_len h1]
theorem sn_47 (X : Cx p R s m args meth c g mid) (hok : okI mid pc (47, a, b, cc) = true) (hs : stp 47 a b cc pc ls st h = some q) (hr : RM R cells slots h q.2.2.2) (k : KK p l e R s m args below meth c Q g mid cells slots h q) : WA p l e R s m args below meth c Q g mid cells slots pc ls st h := by
  obtain ⟨hd, ho⟩ := Bool.and_eq_true_iff.mp hok
  obtain ⟨ho, hb⟩ := of_decide_eq_true ho
  intro H locs la h1 h2 h3
  cases hs
  obtain ⟨hr1, hr2⟩ := hr
  dsimp only at hr1 hr2
  rw [List.length_append, List.length_singleton] at hr1
  rw [sl_app] at hr2
  have hcz : csz (.inl (b, dfl b)) = tx_N b := by
    show (dfl b).length = _
    unfold dfl
    simp
  rw [hcz] at hr2
  refine w_new X h1 h2 hb (tx_K_ok _ ho) (by omega) (by omega) (dq_eq hd) (fun H1 locs1 g1 g2 => ?_)
  have k := k (cells + 1) (slots + tx_N b) (by dsimp only; rw [List.length_append, List.length_singleton]; omega) (by dsimp only; rw [sl_app, hcz]; omega) H1 locs1 la g1 g2 h3
  refine W.eq ?_ k
  show F0 m _ la (.ref _ :: _) = F0 m _ la (.ref (ad _ _ h.length) :: _)
  rw [ad_len h1]
theorem sn_48 (X : Cx p R s m args meth c g mid) (hok : okI mid pc (48, a, b, cc) = true) (hs : stp 48 a b cc pc ls st h = some q) (k : KK p l e R s m args below meth c Q g mid cells slots h q) : WA p l e R s m args below meth c Q g mid cells slots pc ls st h := by
  obtain ⟨hd, ho⟩ := Bool.and_eq_true_iff.mp hok
  obtain ⟨ho, hf, hq⟩ := of_decide_eq_true ho
  intro H locs la h1 h2 h3
  obtain ⟨x, r, rfl, hc, rfl⟩ : ∃ x r, st = .ref x :: r ∧ wt r ≤ 8 ∧ q = (pc + 3, ls, r, h) := by
    replace hs : o_48 a b cc pc ls st h = some q := hs
    unfold o_48 at hs
    split at hs
    · split at hs
      · rename_i hc; cases hs; exact ⟨_, _, rfl, hc, rfl⟩
      · cases hs
    · cases hs
  have hf' := X.2.2.2.2.2.2.1
  have hq' := X.2.2.2.2.2.2.2.1
  refine W.objInit X.1 X.2.1 X.2.2.2.1 (X.2.2.2.2.1 _ (tx_O_ok _ ho)) (X.2.2.2.2.1 _ tx_w_oi) (X.2.2.2.2.1 _ tx_w_cobj) rfl (h3.2.1.trans X.2.2.1.symm) rfl (dq_eq hd) (by omega) (by show 2 * 0 + _ + 12 ≤ _; rw [tr_wt]; omega) (k _ _ rfl rfl H locs la h1 h2 h3)
theorem sn_49 (X : Cx p R s m args meth c g mid) (hok : okI mid pc (49, a, b, cc) = true) (hs : stp 49 a b cc pc ls st h = some q) (hr : RM R cells slots h q.2.2.2) (k : KK p l e R s m args below meth c Q g mid cells slots h q) : WA p l e R s m args below meth c Q g mid cells slots pc ls st h := by
  obtain ⟨hd, ho⟩ := Bool.and_eq_true_iff.mp hok
  obtain ⟨ho, hf, hq⟩ := of_decide_eq_true ho
  have hlk := X.2.2.2.2.1 _ (tx_A_ok _ ho)
  have hf' := X.2.2.2.2.2.2.1
  have hq' := X.2.2.2.2.2.2.2.1
  have hw := X.2.2.2.2.1
  intro H locs la h1 h2 h3
  have hsz : c.maxLocals = la.size := X.2.2.1.trans h3.2.1.symm
  replace hs : o_49 a b cc pc ls st h = some q := hs
  unfold o_49 at hs
  split at hs
  · rename_i x r
    split at hs
    · rename_i hc
      cases hs
      obtain ⟨hr1, hr2⟩ := hr
      dsimp only at hr1 hr2
      exact va_mabs X.1 X.2.1 hsz X.2.2.2.1 hlk (hw _ tx_w_s0) (hw _ tx_w_im) (hw _ tx_w_cabs) (by omega) (by rw [tr_wt]; omega) (by omega) (by omega) (dq_eq hd) (k _ _ rfl rfl H locs la h1 h2 h3)
    · cases hs
  · rename_i y x r
    split at hs
    · rename_i hc
      cases hs
      obtain ⟨hr1, hr2⟩ := hr
      dsimp only at hr1 hr2
      exact va_mmax X.1 X.2.1 hsz X.2.2.2.1 hlk (hw _ tx_w_s1) (hw _ tx_w_im) (hw _ tx_w_cmax) (by omega) (by rw [tr_wt]; omega) (by omega) (by omega) (dq_eq hd) (k _ _ rfl rfl H locs la h1 h2 h3)
    · cases hs
  · rename_i y x r
    split at hs
    · rename_i hc
      cases hs
      obtain ⟨hr1, hr2⟩ := hr
      dsimp only at hr1 hr2
      exact va_mmin X.1 X.2.1 hsz X.2.2.2.1 hlk (hw _ tx_w_s2) (hw _ tx_w_im) (hw _ tx_w_cmin) (by omega) (by rw [tr_wt]; omega) (by omega) (by omega) (dq_eq hd) (k _ _ rfl rfl H locs la h1 h2 h3)
    · cases hs
  · cases hs
theorem sn_50 (X : Cx p R s m args meth c g mid) (hok : okI mid pc (50, a, b, cc) = true) (hs : stp 50 a b cc pc ls st h = some q) (k : KK p l e R s m args below meth c Q g mid cells slots h q) : WA p l e R s m args below meth c Q g mid cells slots pc ls st h := by
  obtain ⟨hd, ho⟩ := Bool.and_eq_true_iff.mp hok
  intro H locs la h1 h2 h3
  cases hs
  exact lv_ldcw X.1 X.2.1 X.2.2.2.1 (X.2.2.2.2.1 _ (tx_I_ok _ (of_decide_eq_true ho))) (dq_eq hd) (k _ _ rfl rfl H locs la h1 h2 h3)
end SND3
