/-! the heap of the running system: told at Tk u, draft at Tk v; the other objects where the constructors put them (by program, wip/whole/genmk.py) -/
def Tk (u : Bool) : Nat := cond u 12 5
noncomputable def mkC (L : Nat) (u v : Bool) (i : Nat) (Ii Fi : Nat → Int32) (Ji : Int64) : Cel := ([
  .inr (.inl (2, L, Fi)),
  .inl (6, [.ref 2, .ref (Tk u), .ref (Tk v), .ref 19, .ref 21, .ref 43, .ref 44, .ref 45, .ref 48, .long Ji]),
  .inl (1, [.int (Ii 0), .ref 3, .ref 4, .int (Ii 3), .int (Ii 4)]),
  .inr (.inl (0, 150, Fi)),
  .inr (.inl (0, 3, Fi)),
  .inl (3, [.int (Ii 0), .int (Ii 1), .int (Ii 2), .int (Ii 3), .int (Ii 4), .ref 6, .ref 7, .ref 8, .ref 9, .ref 10, .ref 11]),
  .inr (.inl (0, 14, Fi)),
  .inr (.inl (0, 14, Fi)),
  .inr (.inl (0, 6, Fi)),
  .inr (.inl (0, 6, Fi)),
  .inr (.inl (0, 6, Fi)),
  .inr (.inl (0, 4, Fi)),
  .inl (3, [.int (Ii 0), .int (Ii 1), .int (Ii 2), .int (Ii 3), .int (Ii 4), .ref 13, .ref 14, .ref 15, .ref 16, .ref 17, .ref 18]),
  .inr (.inl (0, 14, Fi)),
  .inr (.inl (0, 14, Fi)),
  .inr (.inl (0, 6, Fi)),
  .inr (.inl (0, 6, Fi)),
  .inr (.inl (0, 6, Fi)),
  .inr (.inl (0, 4, Fi)),
  .inl (0, [.int (Ii 0), .int (Ii 1), .int (Ii 2), .int (Ii 3), .int (Ii 4), .int (Ii 5), .int (Ii 6), .int (Ii 7), .int (Ii 8), .ref 20]),
  .inr (.inl (0, 3, Fi)),
  .inl (2, [.int (Ii 0), .int (Ii 1), .ref 22]),
  .inr (.inr (10, prQ hp2[22]?)),
  .inl (0, [.int (Ii 0), .int (Ii 1), .int (Ii 2), .int (Ii 3), .int (Ii 4), .int (Ii 5), .int (Ii 6), .int (Ii 7), .int (Ii 8), .ref 24]),
  .inr (.inl (0, 3, Fi)),
  .inl (0, [.int (Ii 0), .int (Ii 1), .int (Ii 2), .int (Ii 3), .int (Ii 4), .int (Ii 5), .int (Ii 6), .int (Ii 7), .int (Ii 8), .ref 26]),
  .inr (.inl (0, 3, Fi)),
  .inl (0, [.int (Ii 0), .int (Ii 1), .int (Ii 2), .int (Ii 3), .int (Ii 4), .int (Ii 5), .int (Ii 6), .int (Ii 7), .int (Ii 8), .ref 28]),
  .inr (.inl (0, 3, Fi)),
  .inl (0, [.int (Ii 0), .int (Ii 1), .int (Ii 2), .int (Ii 3), .int (Ii 4), .int (Ii 5), .int (Ii 6), .int (Ii 7), .int (Ii 8), .ref 30]),
  .inr (.inl (0, 3, Fi)),
  .inl (0, [.int (Ii 0), .int (Ii 1), .int (Ii 2), .int (Ii 3), .int (Ii 4), .int (Ii 5), .int (Ii 6), .int (Ii 7), .int (Ii 8), .ref 32]),
  .inr (.inl (0, 3, Fi)),
  .inl (0, [.int (Ii 0), .int (Ii 1), .int (Ii 2), .int (Ii 3), .int (Ii 4), .int (Ii 5), .int (Ii 6), .int (Ii 7), .int (Ii 8), .ref 34]),
  .inr (.inl (0, 3, Fi)),
  .inl (0, [.int (Ii 0), .int (Ii 1), .int (Ii 2), .int (Ii 3), .int (Ii 4), .int (Ii 5), .int (Ii 6), .int (Ii 7), .int (Ii 8), .ref 36]),
  .inr (.inl (0, 3, Fi)),
  .inl (0, [.int (Ii 0), .int (Ii 1), .int (Ii 2), .int (Ii 3), .int (Ii 4), .int (Ii 5), .int (Ii 6), .int (Ii 7), .int (Ii 8), .ref 38]),
  .inr (.inl (0, 3, Fi)),
  .inl (0, [.int (Ii 0), .int (Ii 1), .int (Ii 2), .int (Ii 3), .int (Ii 4), .int (Ii 5), .int (Ii 6), .int (Ii 7), .int (Ii 8), .ref 40]),
  .inr (.inl (0, 3, Fi)),
  .inl (0, [.int (Ii 0), .int (Ii 1), .int (Ii 2), .int (Ii 3), .int (Ii 4), .int (Ii 5), .int (Ii 6), .int (Ii 7), .int (Ii 8), .ref 42]),
  .inr (.inl (0, 3, Fi)),
  .inr (.inr (2, prQ hp2[43]?)),
  .inr (.inl (1, 2, Fi)),
  .inl (4, [.int (Ii 0), .ref 46, .ref 47]),
  .inr (.inl (0, 6, Fi)),
  .inr (.inl (0, 6, Fi)),
  .inl (5, [.ref 49, .ref 50, .ref 51, .int (Ii 3)]),
  .inr (.inl (0, 100, Fi)),
  .inr (.inl (0, 100, Fi)),
  .inr (.inl (0, 100, Fi)),
  .inl (0, [.int (Ii 0), .int (Ii 1), .int (Ii 2), .int (Ii 3), .int (Ii 4), .int (Ii 5), .int (Ii 6), .int (Ii 7), .int (Ii 8), .ref 53]),
  .inr (.inl (0, 3, Fi)),
  .inl (0, [.int (Ii 0), .int (Ii 1), .int (Ii 2), .int (Ii 3), .int (Ii 4), .int (Ii 5), .int (Ii 6), .int (Ii 7), .int (Ii 8), .ref 55]),
  .inr (.inl (0, 3, Fi)),
  .inl (7, [.int (Ii 0), .long Ji, .ref 57, .int (Ii 3), .int (Ii 4), .int (Ii 5), .int (Ii 6), .int (Ii 7), .int (Ii 8), .ref 58, .int (Ii 10), .ref 59, .ref 60, .ref 61, .ref 62, .ref 63, .ref 64, .ref 65, .ref 66, .ref 67, .ref 68, .int (Ii 21), .ref 69, .ref 70, .int (Ii 24), .ref 71, .ref 72]),
  .inr (.inl (0, 150, Fi)),
  .inr (.inl (0, 8, Fi)),
  .inr (.inl (0, 28, Fi)),
  .inr (.inl (0, 28, Fi)),
  .inr (.inl (0, 12, Fi)),
  .inr (.inl (0, 12, Fi)),
  .inr (.inl (0, 12, Fi)),
  .inr (.inl (0, 8, Fi)),
  .inr (.inl (0, 12, Fi)),
  .inr (.inl (0, 24, Fi)),
  .inr (.inl (1, 2, Fi)),
  .inr (.inl (0, 120, Fi)),
  .inr (.inl (0, 6, Fi)),
  .inr (.inl (0, 6, Fi)),
  .inr (.inl (0, 14, Fi)),
  .inr (.inl (0, 100, Fi))] : List Cel).getD i (.inl (0, []))
noncomputable def mk (L : Nat) (u v : Bool) (I F : Nat → Nat → Int32) (J : Nat → Int64) : List Cel := (List.range 73).map fun i => mkC L u v i (I i) (F i) (J i)
theorem mk_get {L : Nat} {u v : Bool} {I F : Nat → Nat → Int32} {J : Nat → Int64} {a : Nat} (ha : a < 73) : (mk L u v I F J)[a]? = some (mkC L u v a (I a) (F a) (J a)) := by
  unfold mk
  rw [List.getElem?_map, List.getElem?_range ha]
  rfl
theorem mk_len {L : Nat} {u v : Bool} {I F : Nat → Nat → Int32} {J : Nat → Int64} : (mk L u v I F J).length = 73 := by
  unfold mk
  simp
theorem mk_set {L : Nat} {u v : Bool} {I F I' F' : Nat → Nat → Int32} {J J' : Nat → Int64} {a : Nat} {c : Cel} (ha : a < 73) (hI : ∀ i, i ≠ a → I' i = I i) (hF : ∀ i, i ≠ a → F' i = F i) (hJ : ∀ i, i ≠ a → J' i = J i) (hc : c = mkC L u v a (I' a) (F' a) (J' a)) : (mk L u v I F J).set a c = mk L u v I' F' J' := by
  apply List.ext_getElem?
  intro i
  rw [List.getElem?_set, mk_len]
  by_cases e : a = i
  · subst e
    rw [if_pos rfl, if_pos ha, mk_get ha, hc]
  · rw [if_neg e]
    by_cases hi : i < 73
    · rw [mk_get hi, mk_get hi, hI i (Ne.symm e), hF i (Ne.symm e), hJ i (Ne.symm e)]
    · rw [List.getElem?_eq_none (by rw [mk_len]; omega), List.getElem?_eq_none (by rw [mk_len]; omega)]
theorem up_s {α : Type} {f : Nat → α} {k : Nat} {v : α} : va_up f k v k = v := by simp [va_up]
theorem up_n {α : Type} {f : Nat → α} {k j : Nat} {v : α} (h : j ≠ k) : va_up f k v j = f j := by simp [va_up, h]
theorem ud_s {f : Nat → Int32} {k : Nat} {v : Int32} : upd f k v k = v := by simp [upd]
theorem ud_n {f : Nat → Int32} {k j : Nat} {v : Int32} (h : j ≠ k) : upd f k v j = f j := by simp [upd, h]
theorem Tk_t : Tk true = 12 := rfl
theorem Tk_f : Tk false = 5 := rfl
theorem Tk_lt (u : Bool) : Tk u + 6 < 73 := by cases u <;> decide
theorem Tk_nn (u : Bool) : (Tk u = Tk (!u)) = False := by cases u <;> simp [Tk]
theorem Tk_nn' (u : Bool) : (Tk (!u) = Tk u) = False := by cases u <;> simp [Tk]
theorem b01 {x : Int32} (h : x &&& 1 = x) : x = 0 ∨ x = 1 := by
  have h2 := congrArg Int32.toBitVec h
  have : x.toBitVec = 0#32 ∨ x.toBitVec = 1#32 := by
    have h3 : x.toBitVec &&& 1#32 = x.toBitVec := h2
    have h4 := congrArg BitVec.toNat h3
    rw [BitVec.toNat_and, show (1#32).toNat = 1 from rfl, Nat.and_one_is_mod] at h4
    rcases (show x.toBitVec.toNat = 0 ∨ x.toBitVec.toNat = 1 by omega) with e | e
    · exact Or.inl (BitVec.eq_of_toNat_eq (by rw [e]; rfl))
    · exact Or.inr (BitVec.eq_of_toNat_eq (by rw [e]; rfl))
  rcases this with h | h
  · exact Or.inl (Int32.toBitVec_inj.mp h)
  · exact Or.inr (Int32.toBitVec_inj.mp h)
theorem pz_i {h h' : List Cel} {a ci k : Nat} {fs : List Value} {x : Int32} (hc : h[a]? = some (.inl (ci, fs))) (hk : k < fs.length) (ht : tx_ty ci k = .int) (hs : h.set a (.inl (ci, fs.set k (.int x))) = h') : pF h a ci k (.int x) = some h' := by
  unfold pF
  rw [hc]
  show (if _ then _ else _) = _
  rw [ht, if_pos ⟨rfl, hk, rfl, rfl⟩, hs]
theorem pz_j {h h' : List Cel} {a ci k : Nat} {fs : List Value} {x : Int64} (hc : h[a]? = some (.inl (ci, fs))) (hk : k < fs.length) (ht : tx_ty ci k = .long) (hs : h.set a (.inl (ci, fs.set k (.long x))) = h') : pF h a ci k (.long x) = some h' := by
  unfold pF
  rw [hc]
  show (if _ then _ else _) = _
  rw [ht, if_pos ⟨rfl, hk, rfl, rfl⟩, hs]
theorem pz_r {h h' : List Cel} {a ci k q : Nat} {C : String} {fs : List Value} (hc : h[a]? = some (.inl (ci, fs))) (hk : k < fs.length) (ht : tx_ty ci k = .object C) (hs : h.set a (.inl (ci, fs.set k (.ref q))) = h') : pF h a ci k (.ref q) = some h' := by
  unfold pF
  rw [hc]
  show (if _ then _ else _) = _
  rw [ht, if_pos ⟨rfl, hk, rfl, rfl⟩, hs]
theorem pz_b {h h' : List Cel} {a ci k : Nat} {fs : List Value} {x : Int32} (hc : h[a]? = some (.inl (ci, fs))) (hk : k < fs.length) (ht : tx_ty ci k = .boolean) (hs : h.set a (.inl (ci, fs.set k (.int x))) = h') : pF h a ci k (.int x) = if x &&& 1 = x then some h' else none := by
  unfold pF
  rw [hc]
  show (if _ then _ else _) = _
  rw [ht]
  by_cases e : x &&& 1 = x
  · rw [if_pos e, if_pos ⟨rfl, hk, by show Value.int (x &&& 1) = _; rw [e], by rcases b01 e with rfl | rfl <;> rfl⟩, hs]
  · rw [if_neg e, if_neg (fun z => e (Value.int.inj z.2.2.1))]
theorem gz_a {h : List Cel} {a n : Nat} {f : Nat → Int32} {i : Int32} (hc : h[a]? = some (.inr (.inl (0, n, f)))) : gA h a i = if vB i n = true then some (f i.toNatClampNeg) else none := by
  unfold gA
  rw [hc]
  by_cases e : vB i n = true
  · rw [if_pos e]; exact if_pos ⟨by decide, e⟩
  · rw [if_neg e]; exact if_neg (fun z => e z.2)
theorem gz_s {h : List Cel} {a n : Nat} {f : Nat → Int32} {i : Int32} (hc : h[a]? = some (.inr (.inl (2, n, f)))) : gA h a i = if vB i n = true then some (f i.toNatClampNeg) else none := by
  unfold gA
  rw [hc]
  by_cases e : vB i n = true
  · rw [if_pos e]; exact if_pos ⟨by decide, e⟩
  · rw [if_neg e]; exact if_neg (fun z => e z.2)
theorem pz_a {h h' : List Cel} {a n : Nat} {f : Nat → Int32} {i x : Int32} (hc : h[a]? = some (.inr (.inl (0, n, f)))) (hs : h.set a (.inr (.inl (0, n, upd f i.toNatClampNeg x))) = h') : pA h a i x = if vB i n = true then some h' else none := by
  unfold pA
  rw [hc]
  by_cases e : vB i n = true
  · rw [if_pos e, ← hs]; exact if_pos ⟨rfl, e⟩
  · rw [if_neg e]; exact if_neg (fun z => e z.2)
theorem gz_z {h : List Cel} {a n : Nat} {f : Nat → Int32} {i : Int32} (hc : h[a]? = some (.inr (.inl (1, n, f)))) : gZ h a i = if vB i n = true then some (f i.toNatClampNeg) else none := by
  unfold gZ
  rw [hc]
  by_cases e : vB i n = true
  · rw [if_pos e]; exact if_pos ⟨rfl, e⟩
  · rw [if_neg e]; exact if_neg (fun z => e z.2)
theorem pz_z {h h' : List Cel} {a n : Nat} {f : Nat → Int32} {i x : Int32} (hc : h[a]? = some (.inr (.inl (1, n, f)))) (hs : h.set a (.inr (.inl (1, n, upd f i.toNatClampNeg x))) = h') : pZ h a i x = if vB i n = true ∧ x &&& 1 = x then some h' else none := by
  unfold pZ
  rw [hc]
  by_cases e : vB i n = true ∧ x &&& 1 = x
  · rw [if_pos e, ← hs]; exact if_pos ⟨rfl, e⟩
  · rw [if_neg e]; exact if_neg (fun z => e z.2)
section MK
variable {L : Nat} {u v : Bool} {I F : Nat → Nat → Int32} {J : Nat → Int64}
theorem mkC_uv {L : Nat} {u v u' v' : Bool} {i : Nat} {Ii Fi : Nat → Int32} {Ji : Int64} (hi : i ≠ 1) : mkC L u v i Ii Fi Ji = mkC L u' v' i Ii Fi Ji := by
  match i, hi with
  | 0, _ => rfl
  | 1, h => exact absurd rfl h
  | n + 2, _ => rfl
theorem gF_1_0 : gF (mk L u v I F J) 1 6 0 = some (.ref 2) := by unfold gF; rw [mk_get (by decide)]; rfl
theorem gF_1_1 : gF (mk L u v I F J) 1 6 1 = some (.ref (Tk u)) := by unfold gF; rw [mk_get (by decide)]; rfl
theorem pF_1_1 {w : Bool} : pF (mk L u v I F J) 1 6 1 (.ref (Tk w)) = some (mk L w v I F J) := by
  refine pz_r (mk_get (by decide)) (Nat.le_of_ble_eq_true rfl) rfl ?_
  apply List.ext_getElem?
  intro i
  rw [List.getElem?_set, mk_len]
  by_cases e : 1 = i
  · subst e
    rw [if_pos rfl, if_pos (by decide), mk_get (by decide)]
    rfl
  · rw [if_neg e]
    by_cases hi : i < 73
    · rw [mk_get hi, mk_get hi]
      exact congrArg some (mkC_uv (fun z => e z.symm))
    · rw [List.getElem?_eq_none (by rw [mk_len]; omega), List.getElem?_eq_none (by rw [mk_len]; omega)]
theorem gF_1_2 : gF (mk L u v I F J) 1 6 2 = some (.ref (Tk v)) := by unfold gF; rw [mk_get (by decide)]; rfl
theorem pF_1_2 {w : Bool} : pF (mk L u v I F J) 1 6 2 (.ref (Tk w)) = some (mk L u w I F J) := by
  refine pz_r (mk_get (by decide)) (Nat.le_of_ble_eq_true rfl) rfl ?_
  apply List.ext_getElem?
  intro i
  rw [List.getElem?_set, mk_len]
  by_cases e : 1 = i
  · subst e
    rw [if_pos rfl, if_pos (by decide), mk_get (by decide)]
    rfl
  · rw [if_neg e]
    by_cases hi : i < 73
    · rw [mk_get hi, mk_get hi]
      exact congrArg some (mkC_uv (fun z => e z.symm))
    · rw [List.getElem?_eq_none (by rw [mk_len]; omega), List.getElem?_eq_none (by rw [mk_len]; omega)]
theorem gF_1_3 : gF (mk L u v I F J) 1 6 3 = some (.ref 19) := by unfold gF; rw [mk_get (by decide)]; rfl
theorem gF_1_4 : gF (mk L u v I F J) 1 6 4 = some (.ref 21) := by unfold gF; rw [mk_get (by decide)]; rfl
theorem gF_1_5 : gF (mk L u v I F J) 1 6 5 = some (.ref 43) := by unfold gF; rw [mk_get (by decide)]; rfl
theorem gF_1_6 : gF (mk L u v I F J) 1 6 6 = some (.ref 44) := by unfold gF; rw [mk_get (by decide)]; rfl
theorem gF_1_7 : gF (mk L u v I F J) 1 6 7 = some (.ref 45) := by unfold gF; rw [mk_get (by decide)]; rfl
theorem gF_1_8 : gF (mk L u v I F J) 1 6 8 = some (.ref 48) := by unfold gF; rw [mk_get (by decide)]; rfl
theorem gF_1_9 : gF (mk L u v I F J) 1 6 9 = some (.long (J 1)) := by unfold gF; rw [mk_get (by decide)]; rfl
theorem pF_1_9 {x : Int64} : pF (mk L u v I F J) 1 6 9 (.long x) = some (mk L u v I F (va_up J 1 x)) := pz_j (mk_get (by decide)) (Nat.le_of_ble_eq_true rfl) rfl (mk_set (by decide) (fun _ _ => rfl) (fun _ _ => rfl) (fun _ h => up_n h) rfl)
theorem rc_1 : rc (mk L u v I F J) 1 6 = true := by unfold rc; rw [mk_get (by decide)]; rfl
theorem gF_2_0 : gF (mk L u v I F J) 2 1 0 = some (.int (I 2 0)) := by unfold gF; rw [mk_get (by decide)]; rfl
theorem pF_2_0 {x : Int32} : pF (mk L u v I F J) 2 1 0 (.int x) = some (mk L u v (va_up I 2 (upd (I 2) 0 x)) F J) := by exact pz_i (mk_get (by decide)) (Nat.le_of_ble_eq_true rfl) rfl (mk_set (by decide) (fun _ h => up_n h) (fun _ _ => rfl) (fun _ _ => rfl) rfl)
theorem gF_2_1 : gF (mk L u v I F J) 2 1 1 = some (.ref 3) := by unfold gF; rw [mk_get (by decide)]; rfl
theorem gF_2_2 : gF (mk L u v I F J) 2 1 2 = some (.ref 4) := by unfold gF; rw [mk_get (by decide)]; rfl
theorem gF_2_3 : gF (mk L u v I F J) 2 1 3 = some (.int (I 2 3)) := by unfold gF; rw [mk_get (by decide)]; rfl
theorem pF_2_3 {x : Int32} : pF (mk L u v I F J) 2 1 3 (.int x) = some (mk L u v (va_up I 2 (upd (I 2) 3 x)) F J) := by exact pz_i (mk_get (by decide)) (Nat.le_of_ble_eq_true rfl) rfl (mk_set (by decide) (fun _ h => up_n h) (fun _ _ => rfl) (fun _ _ => rfl) rfl)
theorem gF_2_4 : gF (mk L u v I F J) 2 1 4 = some (.int (I 2 4)) := by unfold gF; rw [mk_get (by decide)]; rfl
theorem pF_2_4 {x : Int32} : pF (mk L u v I F J) 2 1 4 (.int x) = some (mk L u v (va_up I 2 (upd (I 2) 4 x)) F J) := by exact pz_i (mk_get (by decide)) (Nat.le_of_ble_eq_true rfl) rfl (mk_set (by decide) (fun _ h => up_n h) (fun _ _ => rfl) (fun _ _ => rfl) rfl)
theorem rc_2 : rc (mk L u v I F J) 2 1 = true := by unfold rc; rw [mk_get (by decide)]; rfl
theorem gF_19_0 : gF (mk L u v I F J) 19 0 0 = some (.int (I 19 0)) := by unfold gF; rw [mk_get (by decide)]; rfl
theorem pF_19_0 {x : Int32} : pF (mk L u v I F J) 19 0 0 (.int x) = some (mk L u v (va_up I 19 (upd (I 19) 0 x)) F J) := by exact pz_i (mk_get (by decide)) (Nat.le_of_ble_eq_true rfl) rfl (mk_set (by decide) (fun _ h => up_n h) (fun _ _ => rfl) (fun _ _ => rfl) rfl)
theorem gF_19_1 : gF (mk L u v I F J) 19 0 1 = some (.int (I 19 1)) := by unfold gF; rw [mk_get (by decide)]; rfl
theorem pF_19_1 {x : Int32} : pF (mk L u v I F J) 19 0 1 (.int x) = if x &&& 1 = x then some (mk L u v (va_up I 19 (upd (I 19) 1 x)) F J) else none := by exact pz_b (mk_get (by decide)) (Nat.le_of_ble_eq_true rfl) rfl (mk_set (by decide) (fun _ h => up_n h) (fun _ _ => rfl) (fun _ _ => rfl) rfl)
theorem gF_19_2 : gF (mk L u v I F J) 19 0 2 = some (.int (I 19 2)) := by unfold gF; rw [mk_get (by decide)]; rfl
theorem pF_19_2 {x : Int32} : pF (mk L u v I F J) 19 0 2 (.int x) = some (mk L u v (va_up I 19 (upd (I 19) 2 x)) F J) := by exact pz_i (mk_get (by decide)) (Nat.le_of_ble_eq_true rfl) rfl (mk_set (by decide) (fun _ h => up_n h) (fun _ _ => rfl) (fun _ _ => rfl) rfl)
theorem gF_19_3 : gF (mk L u v I F J) 19 0 3 = some (.int (I 19 3)) := by unfold gF; rw [mk_get (by decide)]; rfl
theorem pF_19_3 {x : Int32} : pF (mk L u v I F J) 19 0 3 (.int x) = some (mk L u v (va_up I 19 (upd (I 19) 3 x)) F J) := by exact pz_i (mk_get (by decide)) (Nat.le_of_ble_eq_true rfl) rfl (mk_set (by decide) (fun _ h => up_n h) (fun _ _ => rfl) (fun _ _ => rfl) rfl)
theorem gF_19_4 : gF (mk L u v I F J) 19 0 4 = some (.int (I 19 4)) := by unfold gF; rw [mk_get (by decide)]; rfl
theorem pF_19_4 {x : Int32} : pF (mk L u v I F J) 19 0 4 (.int x) = some (mk L u v (va_up I 19 (upd (I 19) 4 x)) F J) := by exact pz_i (mk_get (by decide)) (Nat.le_of_ble_eq_true rfl) rfl (mk_set (by decide) (fun _ h => up_n h) (fun _ _ => rfl) (fun _ _ => rfl) rfl)
theorem gF_19_5 : gF (mk L u v I F J) 19 0 5 = some (.int (I 19 5)) := by unfold gF; rw [mk_get (by decide)]; rfl
theorem pF_19_5 {x : Int32} : pF (mk L u v I F J) 19 0 5 (.int x) = some (mk L u v (va_up I 19 (upd (I 19) 5 x)) F J) := by exact pz_i (mk_get (by decide)) (Nat.le_of_ble_eq_true rfl) rfl (mk_set (by decide) (fun _ h => up_n h) (fun _ _ => rfl) (fun _ _ => rfl) rfl)
theorem gF_19_6 : gF (mk L u v I F J) 19 0 6 = some (.int (I 19 6)) := by unfold gF; rw [mk_get (by decide)]; rfl
theorem pF_19_6 {x : Int32} : pF (mk L u v I F J) 19 0 6 (.int x) = some (mk L u v (va_up I 19 (upd (I 19) 6 x)) F J) := by exact pz_i (mk_get (by decide)) (Nat.le_of_ble_eq_true rfl) rfl (mk_set (by decide) (fun _ h => up_n h) (fun _ _ => rfl) (fun _ _ => rfl) rfl)
theorem gF_19_7 : gF (mk L u v I F J) 19 0 7 = some (.int (I 19 7)) := by unfold gF; rw [mk_get (by decide)]; rfl
theorem pF_19_7 {x : Int32} : pF (mk L u v I F J) 19 0 7 (.int x) = if x &&& 1 = x then some (mk L u v (va_up I 19 (upd (I 19) 7 x)) F J) else none := by exact pz_b (mk_get (by decide)) (Nat.le_of_ble_eq_true rfl) rfl (mk_set (by decide) (fun _ h => up_n h) (fun _ _ => rfl) (fun _ _ => rfl) rfl)
theorem gF_19_8 : gF (mk L u v I F J) 19 0 8 = some (.int (I 19 8)) := by unfold gF; rw [mk_get (by decide)]; rfl
theorem pF_19_8 {x : Int32} : pF (mk L u v I F J) 19 0 8 (.int x) = some (mk L u v (va_up I 19 (upd (I 19) 8 x)) F J) := by exact pz_i (mk_get (by decide)) (Nat.le_of_ble_eq_true rfl) rfl (mk_set (by decide) (fun _ h => up_n h) (fun _ _ => rfl) (fun _ _ => rfl) rfl)
theorem gF_19_9 : gF (mk L u v I F J) 19 0 9 = some (.ref 20) := by unfold gF; rw [mk_get (by decide)]; rfl
theorem rc_19 : rc (mk L u v I F J) 19 0 = true := by unfold rc; rw [mk_get (by decide)]; rfl
theorem gF_21_0 : gF (mk L u v I F J) 21 2 0 = some (.int (I 21 0)) := by unfold gF; rw [mk_get (by decide)]; rfl
theorem pF_21_0 {x : Int32} : pF (mk L u v I F J) 21 2 0 (.int x) = some (mk L u v (va_up I 21 (upd (I 21) 0 x)) F J) := by exact pz_i (mk_get (by decide)) (Nat.le_of_ble_eq_true rfl) rfl (mk_set (by decide) (fun _ h => up_n h) (fun _ _ => rfl) (fun _ _ => rfl) rfl)
theorem gF_21_1 : gF (mk L u v I F J) 21 2 1 = some (.int (I 21 1)) := by unfold gF; rw [mk_get (by decide)]; rfl
theorem pF_21_1 {x : Int32} : pF (mk L u v I F J) 21 2 1 (.int x) = some (mk L u v (va_up I 21 (upd (I 21) 1 x)) F J) := by exact pz_i (mk_get (by decide)) (Nat.le_of_ble_eq_true rfl) rfl (mk_set (by decide) (fun _ h => up_n h) (fun _ _ => rfl) (fun _ _ => rfl) rfl)
theorem gF_21_2 : gF (mk L u v I F J) 21 2 2 = some (.ref 22) := by unfold gF; rw [mk_get (by decide)]; rfl
theorem rc_21 : rc (mk L u v I F J) 21 2 = true := by unfold rc; rw [mk_get (by decide)]; rfl
theorem gF_45_0 : gF (mk L u v I F J) 45 4 0 = some (.int (I 45 0)) := by unfold gF; rw [mk_get (by decide)]; rfl
theorem pF_45_0 {x : Int32} : pF (mk L u v I F J) 45 4 0 (.int x) = some (mk L u v (va_up I 45 (upd (I 45) 0 x)) F J) := by exact pz_i (mk_get (by decide)) (Nat.le_of_ble_eq_true rfl) rfl (mk_set (by decide) (fun _ h => up_n h) (fun _ _ => rfl) (fun _ _ => rfl) rfl)
theorem gF_45_1 : gF (mk L u v I F J) 45 4 1 = some (.ref 46) := by unfold gF; rw [mk_get (by decide)]; rfl
theorem gF_45_2 : gF (mk L u v I F J) 45 4 2 = some (.ref 47) := by unfold gF; rw [mk_get (by decide)]; rfl
theorem rc_45 : rc (mk L u v I F J) 45 4 = true := by unfold rc; rw [mk_get (by decide)]; rfl
theorem gF_48_0 : gF (mk L u v I F J) 48 5 0 = some (.ref 49) := by unfold gF; rw [mk_get (by decide)]; rfl
theorem gF_48_1 : gF (mk L u v I F J) 48 5 1 = some (.ref 50) := by unfold gF; rw [mk_get (by decide)]; rfl
theorem gF_48_2 : gF (mk L u v I F J) 48 5 2 = some (.ref 51) := by unfold gF; rw [mk_get (by decide)]; rfl
theorem gF_48_3 : gF (mk L u v I F J) 48 5 3 = some (.int (I 48 3)) := by unfold gF; rw [mk_get (by decide)]; rfl
theorem pF_48_3 {x : Int32} : pF (mk L u v I F J) 48 5 3 (.int x) = some (mk L u v (va_up I 48 (upd (I 48) 3 x)) F J) := by exact pz_i (mk_get (by decide)) (Nat.le_of_ble_eq_true rfl) rfl (mk_set (by decide) (fun _ h => up_n h) (fun _ _ => rfl) (fun _ _ => rfl) rfl)
theorem rc_48 : rc (mk L u v I F J) 48 5 = true := by unfold rc; rw [mk_get (by decide)]; rfl
theorem gF_56_0 : gF (mk L u v I F J) 56 7 0 = some (.int (I 56 0)) := by unfold gF; rw [mk_get (by decide)]; rfl
theorem pF_56_0 {x : Int32} : pF (mk L u v I F J) 56 7 0 (.int x) = some (mk L u v (va_up I 56 (upd (I 56) 0 x)) F J) := by exact pz_i (mk_get (by decide)) (Nat.le_of_ble_eq_true rfl) rfl (mk_set (by decide) (fun _ h => up_n h) (fun _ _ => rfl) (fun _ _ => rfl) rfl)
theorem gF_56_1 : gF (mk L u v I F J) 56 7 1 = some (.long (J 56)) := by unfold gF; rw [mk_get (by decide)]; rfl
theorem pF_56_1 {x : Int64} : pF (mk L u v I F J) 56 7 1 (.long x) = some (mk L u v I F (va_up J 56 x)) := pz_j (mk_get (by decide)) (Nat.le_of_ble_eq_true rfl) rfl (mk_set (by decide) (fun _ _ => rfl) (fun _ _ => rfl) (fun _ h => up_n h) rfl)
theorem gF_56_2 : gF (mk L u v I F J) 56 7 2 = some (.ref 57) := by unfold gF; rw [mk_get (by decide)]; rfl
theorem gF_56_3 : gF (mk L u v I F J) 56 7 3 = some (.int (I 56 3)) := by unfold gF; rw [mk_get (by decide)]; rfl
theorem pF_56_3 {x : Int32} : pF (mk L u v I F J) 56 7 3 (.int x) = some (mk L u v (va_up I 56 (upd (I 56) 3 x)) F J) := by exact pz_i (mk_get (by decide)) (Nat.le_of_ble_eq_true rfl) rfl (mk_set (by decide) (fun _ h => up_n h) (fun _ _ => rfl) (fun _ _ => rfl) rfl)
theorem gF_56_4 : gF (mk L u v I F J) 56 7 4 = some (.int (I 56 4)) := by unfold gF; rw [mk_get (by decide)]; rfl
theorem pF_56_4 {x : Int32} : pF (mk L u v I F J) 56 7 4 (.int x) = some (mk L u v (va_up I 56 (upd (I 56) 4 x)) F J) := by exact pz_i (mk_get (by decide)) (Nat.le_of_ble_eq_true rfl) rfl (mk_set (by decide) (fun _ h => up_n h) (fun _ _ => rfl) (fun _ _ => rfl) rfl)
theorem gF_56_5 : gF (mk L u v I F J) 56 7 5 = some (.int (I 56 5)) := by unfold gF; rw [mk_get (by decide)]; rfl
theorem pF_56_5 {x : Int32} : pF (mk L u v I F J) 56 7 5 (.int x) = some (mk L u v (va_up I 56 (upd (I 56) 5 x)) F J) := by exact pz_i (mk_get (by decide)) (Nat.le_of_ble_eq_true rfl) rfl (mk_set (by decide) (fun _ h => up_n h) (fun _ _ => rfl) (fun _ _ => rfl) rfl)
theorem gF_56_6 : gF (mk L u v I F J) 56 7 6 = some (.int (I 56 6)) := by unfold gF; rw [mk_get (by decide)]; rfl
theorem pF_56_6 {x : Int32} : pF (mk L u v I F J) 56 7 6 (.int x) = some (mk L u v (va_up I 56 (upd (I 56) 6 x)) F J) := by exact pz_i (mk_get (by decide)) (Nat.le_of_ble_eq_true rfl) rfl (mk_set (by decide) (fun _ h => up_n h) (fun _ _ => rfl) (fun _ _ => rfl) rfl)
theorem gF_56_7 : gF (mk L u v I F J) 56 7 7 = some (.int (I 56 7)) := by unfold gF; rw [mk_get (by decide)]; rfl
theorem pF_56_7 {x : Int32} : pF (mk L u v I F J) 56 7 7 (.int x) = some (mk L u v (va_up I 56 (upd (I 56) 7 x)) F J) := by exact pz_i (mk_get (by decide)) (Nat.le_of_ble_eq_true rfl) rfl (mk_set (by decide) (fun _ h => up_n h) (fun _ _ => rfl) (fun _ _ => rfl) rfl)
theorem gF_56_8 : gF (mk L u v I F J) 56 7 8 = some (.int (I 56 8)) := by unfold gF; rw [mk_get (by decide)]; rfl
theorem pF_56_8 {x : Int32} : pF (mk L u v I F J) 56 7 8 (.int x) = some (mk L u v (va_up I 56 (upd (I 56) 8 x)) F J) := by exact pz_i (mk_get (by decide)) (Nat.le_of_ble_eq_true rfl) rfl (mk_set (by decide) (fun _ h => up_n h) (fun _ _ => rfl) (fun _ _ => rfl) rfl)
theorem gF_56_9 : gF (mk L u v I F J) 56 7 9 = some (.ref 58) := by unfold gF; rw [mk_get (by decide)]; rfl
theorem gF_56_10 : gF (mk L u v I F J) 56 7 10 = some (.int (I 56 10)) := by unfold gF; rw [mk_get (by decide)]; rfl
theorem pF_56_10 {x : Int32} : pF (mk L u v I F J) 56 7 10 (.int x) = if x &&& 1 = x then some (mk L u v (va_up I 56 (upd (I 56) 10 x)) F J) else none := by exact pz_b (mk_get (by decide)) (Nat.le_of_ble_eq_true rfl) rfl (mk_set (by decide) (fun _ h => up_n h) (fun _ _ => rfl) (fun _ _ => rfl) rfl)
theorem gF_56_11 : gF (mk L u v I F J) 56 7 11 = some (.ref 59) := by unfold gF; rw [mk_get (by decide)]; rfl
theorem gF_56_12 : gF (mk L u v I F J) 56 7 12 = some (.ref 60) := by unfold gF; rw [mk_get (by decide)]; rfl
theorem gF_56_13 : gF (mk L u v I F J) 56 7 13 = some (.ref 61) := by unfold gF; rw [mk_get (by decide)]; rfl
theorem gF_56_14 : gF (mk L u v I F J) 56 7 14 = some (.ref 62) := by unfold gF; rw [mk_get (by decide)]; rfl
theorem gF_56_15 : gF (mk L u v I F J) 56 7 15 = some (.ref 63) := by unfold gF; rw [mk_get (by decide)]; rfl
theorem gF_56_16 : gF (mk L u v I F J) 56 7 16 = some (.ref 64) := by unfold gF; rw [mk_get (by decide)]; rfl
theorem gF_56_17 : gF (mk L u v I F J) 56 7 17 = some (.ref 65) := by unfold gF; rw [mk_get (by decide)]; rfl
theorem gF_56_18 : gF (mk L u v I F J) 56 7 18 = some (.ref 66) := by unfold gF; rw [mk_get (by decide)]; rfl
theorem gF_56_19 : gF (mk L u v I F J) 56 7 19 = some (.ref 67) := by unfold gF; rw [mk_get (by decide)]; rfl
theorem gF_56_20 : gF (mk L u v I F J) 56 7 20 = some (.ref 68) := by unfold gF; rw [mk_get (by decide)]; rfl
theorem gF_56_21 : gF (mk L u v I F J) 56 7 21 = some (.int (I 56 21)) := by unfold gF; rw [mk_get (by decide)]; rfl
theorem pF_56_21 {x : Int32} : pF (mk L u v I F J) 56 7 21 (.int x) = some (mk L u v (va_up I 56 (upd (I 56) 21 x)) F J) := by exact pz_i (mk_get (by decide)) (Nat.le_of_ble_eq_true rfl) rfl (mk_set (by decide) (fun _ h => up_n h) (fun _ _ => rfl) (fun _ _ => rfl) rfl)
theorem gF_56_22 : gF (mk L u v I F J) 56 7 22 = some (.ref 69) := by unfold gF; rw [mk_get (by decide)]; rfl
theorem gF_56_23 : gF (mk L u v I F J) 56 7 23 = some (.ref 70) := by unfold gF; rw [mk_get (by decide)]; rfl
theorem gF_56_24 : gF (mk L u v I F J) 56 7 24 = some (.int (I 56 24)) := by unfold gF; rw [mk_get (by decide)]; rfl
theorem pF_56_24 {x : Int32} : pF (mk L u v I F J) 56 7 24 (.int x) = some (mk L u v (va_up I 56 (upd (I 56) 24 x)) F J) := by exact pz_i (mk_get (by decide)) (Nat.le_of_ble_eq_true rfl) rfl (mk_set (by decide) (fun _ h => up_n h) (fun _ _ => rfl) (fun _ _ => rfl) rfl)
theorem gF_56_25 : gF (mk L u v I F J) 56 7 25 = some (.ref 71) := by unfold gF; rw [mk_get (by decide)]; rfl
theorem gF_56_26 : gF (mk L u v I F J) 56 7 26 = some (.ref 72) := by unfold gF; rw [mk_get (by decide)]; rfl
theorem rc_56 : rc (mk L u v I F J) 56 7 = true := by unfold rc; rw [mk_get (by decide)]; rfl
theorem gF_Tu_0 : gF (mk L u v I F J) (Tk u) 3 0 = some (.int (I (Tk u) 0)) := by cases u <;> (unfold gF; rw [mk_get (by decide)]; rfl)
theorem pF_Tu_0 {x : Int32} : pF (mk L u v I F J) (Tk u) 3 0 (.int x) = some (mk L u v (va_up I (Tk u) (upd (I (Tk u)) 0 x)) F J) := by cases u <;> exact pz_i (mk_get (by decide)) (Nat.le_of_ble_eq_true rfl) rfl (mk_set (by decide) (fun _ h => up_n h) (fun _ _ => rfl) (fun _ _ => rfl) rfl)
theorem gF_Tu_1 : gF (mk L u v I F J) (Tk u) 3 1 = some (.int (I (Tk u) 1)) := by cases u <;> (unfold gF; rw [mk_get (by decide)]; rfl)
theorem pF_Tu_1 {x : Int32} : pF (mk L u v I F J) (Tk u) 3 1 (.int x) = some (mk L u v (va_up I (Tk u) (upd (I (Tk u)) 1 x)) F J) := by cases u <;> exact pz_i (mk_get (by decide)) (Nat.le_of_ble_eq_true rfl) rfl (mk_set (by decide) (fun _ h => up_n h) (fun _ _ => rfl) (fun _ _ => rfl) rfl)
theorem gF_Tu_2 : gF (mk L u v I F J) (Tk u) 3 2 = some (.int (I (Tk u) 2)) := by cases u <;> (unfold gF; rw [mk_get (by decide)]; rfl)
theorem pF_Tu_2 {x : Int32} : pF (mk L u v I F J) (Tk u) 3 2 (.int x) = some (mk L u v (va_up I (Tk u) (upd (I (Tk u)) 2 x)) F J) := by cases u <;> exact pz_i (mk_get (by decide)) (Nat.le_of_ble_eq_true rfl) rfl (mk_set (by decide) (fun _ h => up_n h) (fun _ _ => rfl) (fun _ _ => rfl) rfl)
theorem gF_Tu_3 : gF (mk L u v I F J) (Tk u) 3 3 = some (.int (I (Tk u) 3)) := by cases u <;> (unfold gF; rw [mk_get (by decide)]; rfl)
theorem pF_Tu_3 {x : Int32} : pF (mk L u v I F J) (Tk u) 3 3 (.int x) = some (mk L u v (va_up I (Tk u) (upd (I (Tk u)) 3 x)) F J) := by cases u <;> exact pz_i (mk_get (by decide)) (Nat.le_of_ble_eq_true rfl) rfl (mk_set (by decide) (fun _ h => up_n h) (fun _ _ => rfl) (fun _ _ => rfl) rfl)
theorem gF_Tu_4 : gF (mk L u v I F J) (Tk u) 3 4 = some (.int (I (Tk u) 4)) := by cases u <;> (unfold gF; rw [mk_get (by decide)]; rfl)
theorem pF_Tu_4 {x : Int32} : pF (mk L u v I F J) (Tk u) 3 4 (.int x) = if x &&& 1 = x then some (mk L u v (va_up I (Tk u) (upd (I (Tk u)) 4 x)) F J) else none := by cases u <;> exact pz_b (mk_get (by decide)) (Nat.le_of_ble_eq_true rfl) rfl (mk_set (by decide) (fun _ h => up_n h) (fun _ _ => rfl) (fun _ _ => rfl) rfl)
theorem gF_Tu_5 : gF (mk L u v I F J) (Tk u) 3 5 = some (.ref ((Tk u) + 1)) := by cases u <;> (unfold gF; rw [mk_get (by decide)]; rfl)
theorem gF_Tu_6 : gF (mk L u v I F J) (Tk u) 3 6 = some (.ref ((Tk u) + 2)) := by cases u <;> (unfold gF; rw [mk_get (by decide)]; rfl)
theorem gF_Tu_7 : gF (mk L u v I F J) (Tk u) 3 7 = some (.ref ((Tk u) + 3)) := by cases u <;> (unfold gF; rw [mk_get (by decide)]; rfl)
theorem gF_Tu_8 : gF (mk L u v I F J) (Tk u) 3 8 = some (.ref ((Tk u) + 4)) := by cases u <;> (unfold gF; rw [mk_get (by decide)]; rfl)
theorem gF_Tu_9 : gF (mk L u v I F J) (Tk u) 3 9 = some (.ref ((Tk u) + 5)) := by cases u <;> (unfold gF; rw [mk_get (by decide)]; rfl)
theorem gF_Tu_10 : gF (mk L u v I F J) (Tk u) 3 10 = some (.ref ((Tk u) + 6)) := by cases u <;> (unfold gF; rw [mk_get (by decide)]; rfl)
theorem rc_Tu : rc (mk L u v I F J) (Tk u) 3 = true := by cases u <;> (unfold rc; rw [mk_get (by decide)]; rfl)
theorem gF_Tv_0 : gF (mk L u v I F J) (Tk v) 3 0 = some (.int (I (Tk v) 0)) := by cases v <;> (unfold gF; rw [mk_get (by decide)]; rfl)
theorem pF_Tv_0 {x : Int32} : pF (mk L u v I F J) (Tk v) 3 0 (.int x) = some (mk L u v (va_up I (Tk v) (upd (I (Tk v)) 0 x)) F J) := by cases v <;> exact pz_i (mk_get (by decide)) (Nat.le_of_ble_eq_true rfl) rfl (mk_set (by decide) (fun _ h => up_n h) (fun _ _ => rfl) (fun _ _ => rfl) rfl)
theorem gF_Tv_1 : gF (mk L u v I F J) (Tk v) 3 1 = some (.int (I (Tk v) 1)) := by cases v <;> (unfold gF; rw [mk_get (by decide)]; rfl)
theorem pF_Tv_1 {x : Int32} : pF (mk L u v I F J) (Tk v) 3 1 (.int x) = some (mk L u v (va_up I (Tk v) (upd (I (Tk v)) 1 x)) F J) := by cases v <;> exact pz_i (mk_get (by decide)) (Nat.le_of_ble_eq_true rfl) rfl (mk_set (by decide) (fun _ h => up_n h) (fun _ _ => rfl) (fun _ _ => rfl) rfl)
theorem gF_Tv_2 : gF (mk L u v I F J) (Tk v) 3 2 = some (.int (I (Tk v) 2)) := by cases v <;> (unfold gF; rw [mk_get (by decide)]; rfl)
theorem pF_Tv_2 {x : Int32} : pF (mk L u v I F J) (Tk v) 3 2 (.int x) = some (mk L u v (va_up I (Tk v) (upd (I (Tk v)) 2 x)) F J) := by cases v <;> exact pz_i (mk_get (by decide)) (Nat.le_of_ble_eq_true rfl) rfl (mk_set (by decide) (fun _ h => up_n h) (fun _ _ => rfl) (fun _ _ => rfl) rfl)
theorem gF_Tv_3 : gF (mk L u v I F J) (Tk v) 3 3 = some (.int (I (Tk v) 3)) := by cases v <;> (unfold gF; rw [mk_get (by decide)]; rfl)
theorem pF_Tv_3 {x : Int32} : pF (mk L u v I F J) (Tk v) 3 3 (.int x) = some (mk L u v (va_up I (Tk v) (upd (I (Tk v)) 3 x)) F J) := by cases v <;> exact pz_i (mk_get (by decide)) (Nat.le_of_ble_eq_true rfl) rfl (mk_set (by decide) (fun _ h => up_n h) (fun _ _ => rfl) (fun _ _ => rfl) rfl)
theorem gF_Tv_4 : gF (mk L u v I F J) (Tk v) 3 4 = some (.int (I (Tk v) 4)) := by cases v <;> (unfold gF; rw [mk_get (by decide)]; rfl)
theorem pF_Tv_4 {x : Int32} : pF (mk L u v I F J) (Tk v) 3 4 (.int x) = if x &&& 1 = x then some (mk L u v (va_up I (Tk v) (upd (I (Tk v)) 4 x)) F J) else none := by cases v <;> exact pz_b (mk_get (by decide)) (Nat.le_of_ble_eq_true rfl) rfl (mk_set (by decide) (fun _ h => up_n h) (fun _ _ => rfl) (fun _ _ => rfl) rfl)
theorem gF_Tv_5 : gF (mk L u v I F J) (Tk v) 3 5 = some (.ref ((Tk v) + 1)) := by cases v <;> (unfold gF; rw [mk_get (by decide)]; rfl)
theorem gF_Tv_6 : gF (mk L u v I F J) (Tk v) 3 6 = some (.ref ((Tk v) + 2)) := by cases v <;> (unfold gF; rw [mk_get (by decide)]; rfl)
theorem gF_Tv_7 : gF (mk L u v I F J) (Tk v) 3 7 = some (.ref ((Tk v) + 3)) := by cases v <;> (unfold gF; rw [mk_get (by decide)]; rfl)
theorem gF_Tv_8 : gF (mk L u v I F J) (Tk v) 3 8 = some (.ref ((Tk v) + 4)) := by cases v <;> (unfold gF; rw [mk_get (by decide)]; rfl)
theorem gF_Tv_9 : gF (mk L u v I F J) (Tk v) 3 9 = some (.ref ((Tk v) + 5)) := by cases v <;> (unfold gF; rw [mk_get (by decide)]; rfl)
theorem gF_Tv_10 : gF (mk L u v I F J) (Tk v) 3 10 = some (.ref ((Tk v) + 6)) := by cases v <;> (unfold gF; rw [mk_get (by decide)]; rfl)
theorem rc_Tv : rc (mk L u v I F J) (Tk v) 3 = true := by cases v <;> (unfold rc; rw [mk_get (by decide)]; rfl)
theorem gA_3 {i : Int32} : gA (mk L u v I F J) 3 i = if vB i 150 = true then some (F 3 i.toNatClampNeg) else none := by exact gz_a (mk_get (by decide))
theorem pA_3 {i x : Int32} : pA (mk L u v I F J) 3 i x = if vB i 150 = true then some (mk L u v I (va_up F 3 (upd (F 3) i.toNatClampNeg x)) J) else none := by exact pz_a (mk_get (by decide)) (mk_set (by decide) (fun _ _ => rfl) (fun _ h => up_n h) (fun _ _ => rfl) rfl)
theorem gA_4 {i : Int32} : gA (mk L u v I F J) 4 i = if vB i 3 = true then some (F 4 i.toNatClampNeg) else none := by exact gz_a (mk_get (by decide))
theorem pA_4 {i x : Int32} : pA (mk L u v I F J) 4 i x = if vB i 3 = true then some (mk L u v I (va_up F 4 (upd (F 4) i.toNatClampNeg x)) J) else none := by exact pz_a (mk_get (by decide)) (mk_set (by decide) (fun _ _ => rfl) (fun _ h => up_n h) (fun _ _ => rfl) rfl)
theorem gA_20 {i : Int32} : gA (mk L u v I F J) 20 i = if vB i 3 = true then some (F 20 i.toNatClampNeg) else none := by exact gz_a (mk_get (by decide))
theorem pA_20 {i x : Int32} : pA (mk L u v I F J) 20 i x = if vB i 3 = true then some (mk L u v I (va_up F 20 (upd (F 20) i.toNatClampNeg x)) J) else none := by exact pz_a (mk_get (by decide)) (mk_set (by decide) (fun _ _ => rfl) (fun _ h => up_n h) (fun _ _ => rfl) rfl)
theorem gZ_44 {i : Int32} : gZ (mk L u v I F J) 44 i = if vB i 2 = true then some (F 44 i.toNatClampNeg) else none := by exact gz_z (mk_get (by decide))
theorem pZ_44 {i x : Int32} : pZ (mk L u v I F J) 44 i x = if vB i 2 = true ∧ x &&& 1 = x then some (mk L u v I (va_up F 44 (upd (F 44) i.toNatClampNeg x)) J) else none := by exact pz_z (mk_get (by decide)) (mk_set (by decide) (fun _ _ => rfl) (fun _ h => up_n h) (fun _ _ => rfl) rfl)
theorem gA_46 {i : Int32} : gA (mk L u v I F J) 46 i = if vB i 6 = true then some (F 46 i.toNatClampNeg) else none := by exact gz_a (mk_get (by decide))
theorem pA_46 {i x : Int32} : pA (mk L u v I F J) 46 i x = if vB i 6 = true then some (mk L u v I (va_up F 46 (upd (F 46) i.toNatClampNeg x)) J) else none := by exact pz_a (mk_get (by decide)) (mk_set (by decide) (fun _ _ => rfl) (fun _ h => up_n h) (fun _ _ => rfl) rfl)
theorem gA_47 {i : Int32} : gA (mk L u v I F J) 47 i = if vB i 6 = true then some (F 47 i.toNatClampNeg) else none := by exact gz_a (mk_get (by decide))
theorem pA_47 {i x : Int32} : pA (mk L u v I F J) 47 i x = if vB i 6 = true then some (mk L u v I (va_up F 47 (upd (F 47) i.toNatClampNeg x)) J) else none := by exact pz_a (mk_get (by decide)) (mk_set (by decide) (fun _ _ => rfl) (fun _ h => up_n h) (fun _ _ => rfl) rfl)
theorem gA_49 {i : Int32} : gA (mk L u v I F J) 49 i = if vB i 100 = true then some (F 49 i.toNatClampNeg) else none := by exact gz_a (mk_get (by decide))
theorem pA_49 {i x : Int32} : pA (mk L u v I F J) 49 i x = if vB i 100 = true then some (mk L u v I (va_up F 49 (upd (F 49) i.toNatClampNeg x)) J) else none := by exact pz_a (mk_get (by decide)) (mk_set (by decide) (fun _ _ => rfl) (fun _ h => up_n h) (fun _ _ => rfl) rfl)
theorem gA_50 {i : Int32} : gA (mk L u v I F J) 50 i = if vB i 100 = true then some (F 50 i.toNatClampNeg) else none := by exact gz_a (mk_get (by decide))
theorem pA_50 {i x : Int32} : pA (mk L u v I F J) 50 i x = if vB i 100 = true then some (mk L u v I (va_up F 50 (upd (F 50) i.toNatClampNeg x)) J) else none := by exact pz_a (mk_get (by decide)) (mk_set (by decide) (fun _ _ => rfl) (fun _ h => up_n h) (fun _ _ => rfl) rfl)
theorem gA_51 {i : Int32} : gA (mk L u v I F J) 51 i = if vB i 100 = true then some (F 51 i.toNatClampNeg) else none := by exact gz_a (mk_get (by decide))
theorem pA_51 {i x : Int32} : pA (mk L u v I F J) 51 i x = if vB i 100 = true then some (mk L u v I (va_up F 51 (upd (F 51) i.toNatClampNeg x)) J) else none := by exact pz_a (mk_get (by decide)) (mk_set (by decide) (fun _ _ => rfl) (fun _ h => up_n h) (fun _ _ => rfl) rfl)
theorem gA_57 {i : Int32} : gA (mk L u v I F J) 57 i = if vB i 150 = true then some (F 57 i.toNatClampNeg) else none := by exact gz_a (mk_get (by decide))
theorem pA_57 {i x : Int32} : pA (mk L u v I F J) 57 i x = if vB i 150 = true then some (mk L u v I (va_up F 57 (upd (F 57) i.toNatClampNeg x)) J) else none := by exact pz_a (mk_get (by decide)) (mk_set (by decide) (fun _ _ => rfl) (fun _ h => up_n h) (fun _ _ => rfl) rfl)
theorem gA_58 {i : Int32} : gA (mk L u v I F J) 58 i = if vB i 8 = true then some (F 58 i.toNatClampNeg) else none := by exact gz_a (mk_get (by decide))
theorem pA_58 {i x : Int32} : pA (mk L u v I F J) 58 i x = if vB i 8 = true then some (mk L u v I (va_up F 58 (upd (F 58) i.toNatClampNeg x)) J) else none := by exact pz_a (mk_get (by decide)) (mk_set (by decide) (fun _ _ => rfl) (fun _ h => up_n h) (fun _ _ => rfl) rfl)
theorem gA_59 {i : Int32} : gA (mk L u v I F J) 59 i = if vB i 28 = true then some (F 59 i.toNatClampNeg) else none := by exact gz_a (mk_get (by decide))
theorem pA_59 {i x : Int32} : pA (mk L u v I F J) 59 i x = if vB i 28 = true then some (mk L u v I (va_up F 59 (upd (F 59) i.toNatClampNeg x)) J) else none := by exact pz_a (mk_get (by decide)) (mk_set (by decide) (fun _ _ => rfl) (fun _ h => up_n h) (fun _ _ => rfl) rfl)
theorem gA_60 {i : Int32} : gA (mk L u v I F J) 60 i = if vB i 28 = true then some (F 60 i.toNatClampNeg) else none := by exact gz_a (mk_get (by decide))
theorem pA_60 {i x : Int32} : pA (mk L u v I F J) 60 i x = if vB i 28 = true then some (mk L u v I (va_up F 60 (upd (F 60) i.toNatClampNeg x)) J) else none := by exact pz_a (mk_get (by decide)) (mk_set (by decide) (fun _ _ => rfl) (fun _ h => up_n h) (fun _ _ => rfl) rfl)
theorem gA_61 {i : Int32} : gA (mk L u v I F J) 61 i = if vB i 12 = true then some (F 61 i.toNatClampNeg) else none := by exact gz_a (mk_get (by decide))
theorem pA_61 {i x : Int32} : pA (mk L u v I F J) 61 i x = if vB i 12 = true then some (mk L u v I (va_up F 61 (upd (F 61) i.toNatClampNeg x)) J) else none := by exact pz_a (mk_get (by decide)) (mk_set (by decide) (fun _ _ => rfl) (fun _ h => up_n h) (fun _ _ => rfl) rfl)
theorem gA_62 {i : Int32} : gA (mk L u v I F J) 62 i = if vB i 12 = true then some (F 62 i.toNatClampNeg) else none := by exact gz_a (mk_get (by decide))
theorem pA_62 {i x : Int32} : pA (mk L u v I F J) 62 i x = if vB i 12 = true then some (mk L u v I (va_up F 62 (upd (F 62) i.toNatClampNeg x)) J) else none := by exact pz_a (mk_get (by decide)) (mk_set (by decide) (fun _ _ => rfl) (fun _ h => up_n h) (fun _ _ => rfl) rfl)
theorem gA_63 {i : Int32} : gA (mk L u v I F J) 63 i = if vB i 12 = true then some (F 63 i.toNatClampNeg) else none := by exact gz_a (mk_get (by decide))
theorem pA_63 {i x : Int32} : pA (mk L u v I F J) 63 i x = if vB i 12 = true then some (mk L u v I (va_up F 63 (upd (F 63) i.toNatClampNeg x)) J) else none := by exact pz_a (mk_get (by decide)) (mk_set (by decide) (fun _ _ => rfl) (fun _ h => up_n h) (fun _ _ => rfl) rfl)
theorem gA_64 {i : Int32} : gA (mk L u v I F J) 64 i = if vB i 8 = true then some (F 64 i.toNatClampNeg) else none := by exact gz_a (mk_get (by decide))
theorem pA_64 {i x : Int32} : pA (mk L u v I F J) 64 i x = if vB i 8 = true then some (mk L u v I (va_up F 64 (upd (F 64) i.toNatClampNeg x)) J) else none := by exact pz_a (mk_get (by decide)) (mk_set (by decide) (fun _ _ => rfl) (fun _ h => up_n h) (fun _ _ => rfl) rfl)
theorem gA_65 {i : Int32} : gA (mk L u v I F J) 65 i = if vB i 12 = true then some (F 65 i.toNatClampNeg) else none := by exact gz_a (mk_get (by decide))
theorem pA_65 {i x : Int32} : pA (mk L u v I F J) 65 i x = if vB i 12 = true then some (mk L u v I (va_up F 65 (upd (F 65) i.toNatClampNeg x)) J) else none := by exact pz_a (mk_get (by decide)) (mk_set (by decide) (fun _ _ => rfl) (fun _ h => up_n h) (fun _ _ => rfl) rfl)
theorem gA_66 {i : Int32} : gA (mk L u v I F J) 66 i = if vB i 24 = true then some (F 66 i.toNatClampNeg) else none := by exact gz_a (mk_get (by decide))
theorem pA_66 {i x : Int32} : pA (mk L u v I F J) 66 i x = if vB i 24 = true then some (mk L u v I (va_up F 66 (upd (F 66) i.toNatClampNeg x)) J) else none := by exact pz_a (mk_get (by decide)) (mk_set (by decide) (fun _ _ => rfl) (fun _ h => up_n h) (fun _ _ => rfl) rfl)
theorem gZ_67 {i : Int32} : gZ (mk L u v I F J) 67 i = if vB i 2 = true then some (F 67 i.toNatClampNeg) else none := by exact gz_z (mk_get (by decide))
theorem pZ_67 {i x : Int32} : pZ (mk L u v I F J) 67 i x = if vB i 2 = true ∧ x &&& 1 = x then some (mk L u v I (va_up F 67 (upd (F 67) i.toNatClampNeg x)) J) else none := by exact pz_z (mk_get (by decide)) (mk_set (by decide) (fun _ _ => rfl) (fun _ h => up_n h) (fun _ _ => rfl) rfl)
theorem gA_68 {i : Int32} : gA (mk L u v I F J) 68 i = if vB i 120 = true then some (F 68 i.toNatClampNeg) else none := by exact gz_a (mk_get (by decide))
theorem pA_68 {i x : Int32} : pA (mk L u v I F J) 68 i x = if vB i 120 = true then some (mk L u v I (va_up F 68 (upd (F 68) i.toNatClampNeg x)) J) else none := by exact pz_a (mk_get (by decide)) (mk_set (by decide) (fun _ _ => rfl) (fun _ h => up_n h) (fun _ _ => rfl) rfl)
theorem gA_69 {i : Int32} : gA (mk L u v I F J) 69 i = if vB i 6 = true then some (F 69 i.toNatClampNeg) else none := by exact gz_a (mk_get (by decide))
theorem pA_69 {i x : Int32} : pA (mk L u v I F J) 69 i x = if vB i 6 = true then some (mk L u v I (va_up F 69 (upd (F 69) i.toNatClampNeg x)) J) else none := by exact pz_a (mk_get (by decide)) (mk_set (by decide) (fun _ _ => rfl) (fun _ h => up_n h) (fun _ _ => rfl) rfl)
theorem gA_70 {i : Int32} : gA (mk L u v I F J) 70 i = if vB i 6 = true then some (F 70 i.toNatClampNeg) else none := by exact gz_a (mk_get (by decide))
theorem pA_70 {i x : Int32} : pA (mk L u v I F J) 70 i x = if vB i 6 = true then some (mk L u v I (va_up F 70 (upd (F 70) i.toNatClampNeg x)) J) else none := by exact pz_a (mk_get (by decide)) (mk_set (by decide) (fun _ _ => rfl) (fun _ h => up_n h) (fun _ _ => rfl) rfl)
theorem gA_71 {i : Int32} : gA (mk L u v I F J) 71 i = if vB i 14 = true then some (F 71 i.toNatClampNeg) else none := by exact gz_a (mk_get (by decide))
theorem pA_71 {i x : Int32} : pA (mk L u v I F J) 71 i x = if vB i 14 = true then some (mk L u v I (va_up F 71 (upd (F 71) i.toNatClampNeg x)) J) else none := by exact pz_a (mk_get (by decide)) (mk_set (by decide) (fun _ _ => rfl) (fun _ h => up_n h) (fun _ _ => rfl) rfl)
theorem gA_72 {i : Int32} : gA (mk L u v I F J) 72 i = if vB i 100 = true then some (F 72 i.toNatClampNeg) else none := by exact gz_a (mk_get (by decide))
theorem pA_72 {i x : Int32} : pA (mk L u v I F J) 72 i x = if vB i 100 = true then some (mk L u v I (va_up F 72 (upd (F 72) i.toNatClampNeg x)) J) else none := by exact pz_a (mk_get (by decide)) (mk_set (by decide) (fun _ _ => rfl) (fun _ h => up_n h) (fun _ _ => rfl) rfl)
theorem gA_Tu1 {i : Int32} : gA (mk L u v I F J) (Tk u + 1) i = if vB i 14 = true then some (F (Tk u + 1) i.toNatClampNeg) else none := by cases u <;> (exact gz_a (mk_get (by decide)))
theorem pA_Tu1 {i x : Int32} : pA (mk L u v I F J) (Tk u + 1) i x = if vB i 14 = true then some (mk L u v I (va_up F (Tk u + 1) (upd (F (Tk u + 1)) i.toNatClampNeg x)) J) else none := by cases u <;> (exact pz_a (mk_get (by decide)) (mk_set (by decide) (fun _ _ => rfl) (fun _ h => up_n h) (fun _ _ => rfl) rfl))
theorem gA_Tu2 {i : Int32} : gA (mk L u v I F J) (Tk u + 2) i = if vB i 14 = true then some (F (Tk u + 2) i.toNatClampNeg) else none := by cases u <;> (exact gz_a (mk_get (by decide)))
theorem pA_Tu2 {i x : Int32} : pA (mk L u v I F J) (Tk u + 2) i x = if vB i 14 = true then some (mk L u v I (va_up F (Tk u + 2) (upd (F (Tk u + 2)) i.toNatClampNeg x)) J) else none := by cases u <;> (exact pz_a (mk_get (by decide)) (mk_set (by decide) (fun _ _ => rfl) (fun _ h => up_n h) (fun _ _ => rfl) rfl))
theorem gA_Tu3 {i : Int32} : gA (mk L u v I F J) (Tk u + 3) i = if vB i 6 = true then some (F (Tk u + 3) i.toNatClampNeg) else none := by cases u <;> (exact gz_a (mk_get (by decide)))
theorem pA_Tu3 {i x : Int32} : pA (mk L u v I F J) (Tk u + 3) i x = if vB i 6 = true then some (mk L u v I (va_up F (Tk u + 3) (upd (F (Tk u + 3)) i.toNatClampNeg x)) J) else none := by cases u <;> (exact pz_a (mk_get (by decide)) (mk_set (by decide) (fun _ _ => rfl) (fun _ h => up_n h) (fun _ _ => rfl) rfl))
theorem gA_Tu4 {i : Int32} : gA (mk L u v I F J) (Tk u + 4) i = if vB i 6 = true then some (F (Tk u + 4) i.toNatClampNeg) else none := by cases u <;> (exact gz_a (mk_get (by decide)))
theorem pA_Tu4 {i x : Int32} : pA (mk L u v I F J) (Tk u + 4) i x = if vB i 6 = true then some (mk L u v I (va_up F (Tk u + 4) (upd (F (Tk u + 4)) i.toNatClampNeg x)) J) else none := by cases u <;> (exact pz_a (mk_get (by decide)) (mk_set (by decide) (fun _ _ => rfl) (fun _ h => up_n h) (fun _ _ => rfl) rfl))
theorem gA_Tu5 {i : Int32} : gA (mk L u v I F J) (Tk u + 5) i = if vB i 6 = true then some (F (Tk u + 5) i.toNatClampNeg) else none := by cases u <;> (exact gz_a (mk_get (by decide)))
theorem pA_Tu5 {i x : Int32} : pA (mk L u v I F J) (Tk u + 5) i x = if vB i 6 = true then some (mk L u v I (va_up F (Tk u + 5) (upd (F (Tk u + 5)) i.toNatClampNeg x)) J) else none := by cases u <;> (exact pz_a (mk_get (by decide)) (mk_set (by decide) (fun _ _ => rfl) (fun _ h => up_n h) (fun _ _ => rfl) rfl))
theorem gA_Tu6 {i : Int32} : gA (mk L u v I F J) (Tk u + 6) i = if vB i 4 = true then some (F (Tk u + 6) i.toNatClampNeg) else none := by cases u <;> (exact gz_a (mk_get (by decide)))
theorem pA_Tu6 {i x : Int32} : pA (mk L u v I F J) (Tk u + 6) i x = if vB i 4 = true then some (mk L u v I (va_up F (Tk u + 6) (upd (F (Tk u + 6)) i.toNatClampNeg x)) J) else none := by cases u <;> (exact pz_a (mk_get (by decide)) (mk_set (by decide) (fun _ _ => rfl) (fun _ h => up_n h) (fun _ _ => rfl) rfl))
theorem gA_Tv1 {i : Int32} : gA (mk L u v I F J) (Tk v + 1) i = if vB i 14 = true then some (F (Tk v + 1) i.toNatClampNeg) else none := by cases v <;> (exact gz_a (mk_get (by decide)))
theorem pA_Tv1 {i x : Int32} : pA (mk L u v I F J) (Tk v + 1) i x = if vB i 14 = true then some (mk L u v I (va_up F (Tk v + 1) (upd (F (Tk v + 1)) i.toNatClampNeg x)) J) else none := by cases v <;> (exact pz_a (mk_get (by decide)) (mk_set (by decide) (fun _ _ => rfl) (fun _ h => up_n h) (fun _ _ => rfl) rfl))
theorem gA_Tv2 {i : Int32} : gA (mk L u v I F J) (Tk v + 2) i = if vB i 14 = true then some (F (Tk v + 2) i.toNatClampNeg) else none := by cases v <;> (exact gz_a (mk_get (by decide)))
theorem pA_Tv2 {i x : Int32} : pA (mk L u v I F J) (Tk v + 2) i x = if vB i 14 = true then some (mk L u v I (va_up F (Tk v + 2) (upd (F (Tk v + 2)) i.toNatClampNeg x)) J) else none := by cases v <;> (exact pz_a (mk_get (by decide)) (mk_set (by decide) (fun _ _ => rfl) (fun _ h => up_n h) (fun _ _ => rfl) rfl))
theorem gA_Tv3 {i : Int32} : gA (mk L u v I F J) (Tk v + 3) i = if vB i 6 = true then some (F (Tk v + 3) i.toNatClampNeg) else none := by cases v <;> (exact gz_a (mk_get (by decide)))
theorem pA_Tv3 {i x : Int32} : pA (mk L u v I F J) (Tk v + 3) i x = if vB i 6 = true then some (mk L u v I (va_up F (Tk v + 3) (upd (F (Tk v + 3)) i.toNatClampNeg x)) J) else none := by cases v <;> (exact pz_a (mk_get (by decide)) (mk_set (by decide) (fun _ _ => rfl) (fun _ h => up_n h) (fun _ _ => rfl) rfl))
theorem gA_Tv4 {i : Int32} : gA (mk L u v I F J) (Tk v + 4) i = if vB i 6 = true then some (F (Tk v + 4) i.toNatClampNeg) else none := by cases v <;> (exact gz_a (mk_get (by decide)))
theorem pA_Tv4 {i x : Int32} : pA (mk L u v I F J) (Tk v + 4) i x = if vB i 6 = true then some (mk L u v I (va_up F (Tk v + 4) (upd (F (Tk v + 4)) i.toNatClampNeg x)) J) else none := by cases v <;> (exact pz_a (mk_get (by decide)) (mk_set (by decide) (fun _ _ => rfl) (fun _ h => up_n h) (fun _ _ => rfl) rfl))
theorem gA_Tv5 {i : Int32} : gA (mk L u v I F J) (Tk v + 5) i = if vB i 6 = true then some (F (Tk v + 5) i.toNatClampNeg) else none := by cases v <;> (exact gz_a (mk_get (by decide)))
theorem pA_Tv5 {i x : Int32} : pA (mk L u v I F J) (Tk v + 5) i x = if vB i 6 = true then some (mk L u v I (va_up F (Tk v + 5) (upd (F (Tk v + 5)) i.toNatClampNeg x)) J) else none := by cases v <;> (exact pz_a (mk_get (by decide)) (mk_set (by decide) (fun _ _ => rfl) (fun _ h => up_n h) (fun _ _ => rfl) rfl))
theorem gA_Tv6 {i : Int32} : gA (mk L u v I F J) (Tk v + 6) i = if vB i 4 = true then some (F (Tk v + 6) i.toNatClampNeg) else none := by cases v <;> (exact gz_a (mk_get (by decide)))
theorem pA_Tv6 {i x : Int32} : pA (mk L u v I F J) (Tk v + 6) i x = if vB i 4 = true then some (mk L u v I (va_up F (Tk v + 6) (upd (F (Tk v + 6)) i.toNatClampNeg x)) J) else none := by cases v <;> (exact pz_a (mk_get (by decide)) (mk_set (by decide) (fun _ _ => rfl) (fun _ h => up_n h) (fun _ _ => rfl) rfl))
theorem gQ_22 {i : Int32} : gQ (mk L u v I F J) 22 i = if vB i 10 = true then some (.ref (23 + 2 * i.toNatClampNeg)) else none := by
  unfold gQ
  rw [mk_get (by decide)]
  show (if vB i 10 = true then some (va_rf (prQ hp2[22]? i.toNatClampNeg)) else none) = _
  by_cases g : vB i 10 = true
  · rw [if_pos g, if_pos g, hp_r.1 _ (vB_lt g)]
    rfl
  · rw [if_neg g, if_neg g]
theorem gQ_43 {i : Int32} : gQ (mk L u v I F J) 43 i = if vB i 2 = true then some (.ref (52 + 2 * i.toNatClampNeg)) else none := by
  unfold gQ
  rw [mk_get (by decide)]
  show (if vB i 2 = true then some (va_rf (prQ hp2[43]? i.toNatClampNeg)) else none) = _
  by_cases g : vB i 2 = true
  · rw [if_pos g, if_pos g, hp_r.2 _ (vB_lt g)]
    rfl
  · rw [if_neg g, if_neg g]
theorem gL_0 : gL (mk L u v I F J) 0 = some (Int32.ofNat L) := by unfold gL; rw [mk_get (by decide)]; rfl
theorem gA_0 {i : Int32} : gA (mk L u v I F J) 0 i = if vB i L = true then some (F 0 i.toNatClampNeg) else none := gz_s (mk_get (by decide))
/-- addresses of the barns -/
def isB (a : Nat) : Bool := a == 19 || (23 ≤ a && a ≤ 41 && a % 2 == 1) || a == 52 || a == 54
theorem mkC_B {a : Nat} (ha : isB a = true) {Ii Fi : Nat → Int32} {Ji : Int64} : mkC L u v a Ii Fi Ji = .inl (0, [.int (Ii 0), .int (Ii 1), .int (Ii 2), .int (Ii 3), .int (Ii 4), .int (Ii 5), .int (Ii 6), .int (Ii 7), .int (Ii 8), .ref (a + 1)]) ∧ mkC L u v (a + 1) Ii Fi Ji = .inr (.inl (0, 3, Fi)) := by
  have hl : a < 55 := by
    unfold isB at ha
    simp only [Bool.or_eq_true, Bool.and_eq_true, beq_iff_eq, decide_eq_true_eq] at ha
    omega
  match a, hl, ha with
  | 0, _, h => exact absurd h (by decide)
  | 1, _, h => exact absurd h (by decide)
  | 2, _, h => exact absurd h (by decide)
  | 3, _, h => exact absurd h (by decide)
  | 4, _, h => exact absurd h (by decide)
  | 5, _, h => exact absurd h (by decide)
  | 6, _, h => exact absurd h (by decide)
  | 7, _, h => exact absurd h (by decide)
  | 8, _, h => exact absurd h (by decide)
  | 9, _, h => exact absurd h (by decide)
  | 10, _, h => exact absurd h (by decide)
  | 11, _, h => exact absurd h (by decide)
  | 12, _, h => exact absurd h (by decide)
  | 13, _, h => exact absurd h (by decide)
  | 14, _, h => exact absurd h (by decide)
  | 15, _, h => exact absurd h (by decide)
  | 16, _, h => exact absurd h (by decide)
  | 17, _, h => exact absurd h (by decide)
  | 18, _, h => exact absurd h (by decide)
  | 19, _, h => exact ⟨rfl, rfl⟩
  | 20, _, h => exact absurd h (by decide)
  | 21, _, h => exact absurd h (by decide)
  | 22, _, h => exact absurd h (by decide)
  | 23, _, h => exact ⟨rfl, rfl⟩
  | 24, _, h => exact absurd h (by decide)
  | 25, _, h => exact ⟨rfl, rfl⟩
  | 26, _, h => exact absurd h (by decide)
  | 27, _, h => exact ⟨rfl, rfl⟩
  | 28, _, h => exact absurd h (by decide)
  | 29, _, h => exact ⟨rfl, rfl⟩
  | 30, _, h => exact absurd h (by decide)
  | 31, _, h => exact ⟨rfl, rfl⟩
  | 32, _, h => exact absurd h (by decide)
  | 33, _, h => exact ⟨rfl, rfl⟩
  | 34, _, h => exact absurd h (by decide)
  | 35, _, h => exact ⟨rfl, rfl⟩
  | 36, _, h => exact absurd h (by decide)
  | 37, _, h => exact ⟨rfl, rfl⟩
  | 38, _, h => exact absurd h (by decide)
  | 39, _, h => exact ⟨rfl, rfl⟩
  | 40, _, h => exact absurd h (by decide)
  | 41, _, h => exact ⟨rfl, rfl⟩
  | 42, _, h => exact absurd h (by decide)
  | 43, _, h => exact absurd h (by decide)
  | 44, _, h => exact absurd h (by decide)
  | 45, _, h => exact absurd h (by decide)
  | 46, _, h => exact absurd h (by decide)
  | 47, _, h => exact absurd h (by decide)
  | 48, _, h => exact absurd h (by decide)
  | 49, _, h => exact absurd h (by decide)
  | 50, _, h => exact absurd h (by decide)
  | 51, _, h => exact absurd h (by decide)
  | 52, _, h => exact ⟨rfl, rfl⟩
  | 53, _, h => exact absurd h (by decide)
  | 54, _, h => exact ⟨rfl, rfl⟩
  | m + 55, h, _ => exact absurd h (by omega)
theorem isB_lt {a : Nat} (ha : isB a = true) : a + 1 < 73 := by
  unfold isB at ha
  simp only [Bool.or_eq_true, Bool.and_eq_true, beq_iff_eq, decide_eq_true_eq] at ha
  omega
theorem gB_r {a : Nat} (ha : isB a = true) : gF (mk L u v I F J) a 0 9 = some (.ref (a + 1)) := by unfold gF; rw [mk_get (by have := isB_lt ha; omega), (mkC_B ha).1]; rfl
theorem gB_0 {a : Nat} (ha : isB a = true) : gF (mk L u v I F J) a 0 0 = some (.int (I a 0)) := by unfold gF; rw [mk_get (by have := isB_lt ha; omega), (mkC_B ha).1]; rfl
theorem pB_0 {a : Nat} {x : Int32} (ha : isB a = true) : pF (mk L u v I F J) a 0 0 (.int x) = some (mk L u v (va_up I a (upd (I a) 0 x)) F J) := pz_i ((mk_get (by have := isB_lt ha; omega)).trans (congrArg some (mkC_B ha).1)) (Nat.le_of_ble_eq_true rfl) rfl (mk_set (by have := isB_lt ha; omega) (fun _ h => up_n h) (fun _ _ => rfl) (fun _ _ => rfl) (by rw [(mkC_B ha).1, up_s]; rfl))
theorem gB_1 {a : Nat} (ha : isB a = true) : gF (mk L u v I F J) a 0 1 = some (.int (I a 1)) := by unfold gF; rw [mk_get (by have := isB_lt ha; omega), (mkC_B ha).1]; rfl
theorem pB_1 {a : Nat} {x : Int32} (ha : isB a = true) : pF (mk L u v I F J) a 0 1 (.int x) = if x &&& 1 = x then some (mk L u v (va_up I a (upd (I a) 1 x)) F J) else none := pz_b ((mk_get (by have := isB_lt ha; omega)).trans (congrArg some (mkC_B ha).1)) (Nat.le_of_ble_eq_true rfl) rfl (mk_set (by have := isB_lt ha; omega) (fun _ h => up_n h) (fun _ _ => rfl) (fun _ _ => rfl) (by rw [(mkC_B ha).1, up_s]; rfl))
theorem gB_2 {a : Nat} (ha : isB a = true) : gF (mk L u v I F J) a 0 2 = some (.int (I a 2)) := by unfold gF; rw [mk_get (by have := isB_lt ha; omega), (mkC_B ha).1]; rfl
theorem pB_2 {a : Nat} {x : Int32} (ha : isB a = true) : pF (mk L u v I F J) a 0 2 (.int x) = some (mk L u v (va_up I a (upd (I a) 2 x)) F J) := pz_i ((mk_get (by have := isB_lt ha; omega)).trans (congrArg some (mkC_B ha).1)) (Nat.le_of_ble_eq_true rfl) rfl (mk_set (by have := isB_lt ha; omega) (fun _ h => up_n h) (fun _ _ => rfl) (fun _ _ => rfl) (by rw [(mkC_B ha).1, up_s]; rfl))
theorem gB_3 {a : Nat} (ha : isB a = true) : gF (mk L u v I F J) a 0 3 = some (.int (I a 3)) := by unfold gF; rw [mk_get (by have := isB_lt ha; omega), (mkC_B ha).1]; rfl
theorem pB_3 {a : Nat} {x : Int32} (ha : isB a = true) : pF (mk L u v I F J) a 0 3 (.int x) = some (mk L u v (va_up I a (upd (I a) 3 x)) F J) := pz_i ((mk_get (by have := isB_lt ha; omega)).trans (congrArg some (mkC_B ha).1)) (Nat.le_of_ble_eq_true rfl) rfl (mk_set (by have := isB_lt ha; omega) (fun _ h => up_n h) (fun _ _ => rfl) (fun _ _ => rfl) (by rw [(mkC_B ha).1, up_s]; rfl))
theorem gB_4 {a : Nat} (ha : isB a = true) : gF (mk L u v I F J) a 0 4 = some (.int (I a 4)) := by unfold gF; rw [mk_get (by have := isB_lt ha; omega), (mkC_B ha).1]; rfl
theorem pB_4 {a : Nat} {x : Int32} (ha : isB a = true) : pF (mk L u v I F J) a 0 4 (.int x) = some (mk L u v (va_up I a (upd (I a) 4 x)) F J) := pz_i ((mk_get (by have := isB_lt ha; omega)).trans (congrArg some (mkC_B ha).1)) (Nat.le_of_ble_eq_true rfl) rfl (mk_set (by have := isB_lt ha; omega) (fun _ h => up_n h) (fun _ _ => rfl) (fun _ _ => rfl) (by rw [(mkC_B ha).1, up_s]; rfl))
theorem gB_5 {a : Nat} (ha : isB a = true) : gF (mk L u v I F J) a 0 5 = some (.int (I a 5)) := by unfold gF; rw [mk_get (by have := isB_lt ha; omega), (mkC_B ha).1]; rfl
theorem pB_5 {a : Nat} {x : Int32} (ha : isB a = true) : pF (mk L u v I F J) a 0 5 (.int x) = some (mk L u v (va_up I a (upd (I a) 5 x)) F J) := pz_i ((mk_get (by have := isB_lt ha; omega)).trans (congrArg some (mkC_B ha).1)) (Nat.le_of_ble_eq_true rfl) rfl (mk_set (by have := isB_lt ha; omega) (fun _ h => up_n h) (fun _ _ => rfl) (fun _ _ => rfl) (by rw [(mkC_B ha).1, up_s]; rfl))
theorem gB_6 {a : Nat} (ha : isB a = true) : gF (mk L u v I F J) a 0 6 = some (.int (I a 6)) := by unfold gF; rw [mk_get (by have := isB_lt ha; omega), (mkC_B ha).1]; rfl
theorem pB_6 {a : Nat} {x : Int32} (ha : isB a = true) : pF (mk L u v I F J) a 0 6 (.int x) = some (mk L u v (va_up I a (upd (I a) 6 x)) F J) := pz_i ((mk_get (by have := isB_lt ha; omega)).trans (congrArg some (mkC_B ha).1)) (Nat.le_of_ble_eq_true rfl) rfl (mk_set (by have := isB_lt ha; omega) (fun _ h => up_n h) (fun _ _ => rfl) (fun _ _ => rfl) (by rw [(mkC_B ha).1, up_s]; rfl))
theorem gB_7 {a : Nat} (ha : isB a = true) : gF (mk L u v I F J) a 0 7 = some (.int (I a 7)) := by unfold gF; rw [mk_get (by have := isB_lt ha; omega), (mkC_B ha).1]; rfl
theorem pB_7 {a : Nat} {x : Int32} (ha : isB a = true) : pF (mk L u v I F J) a 0 7 (.int x) = if x &&& 1 = x then some (mk L u v (va_up I a (upd (I a) 7 x)) F J) else none := pz_b ((mk_get (by have := isB_lt ha; omega)).trans (congrArg some (mkC_B ha).1)) (Nat.le_of_ble_eq_true rfl) rfl (mk_set (by have := isB_lt ha; omega) (fun _ h => up_n h) (fun _ _ => rfl) (fun _ _ => rfl) (by rw [(mkC_B ha).1, up_s]; rfl))
theorem gB_8 {a : Nat} (ha : isB a = true) : gF (mk L u v I F J) a 0 8 = some (.int (I a 8)) := by unfold gF; rw [mk_get (by have := isB_lt ha; omega), (mkC_B ha).1]; rfl
theorem pB_8 {a : Nat} {x : Int32} (ha : isB a = true) : pF (mk L u v I F J) a 0 8 (.int x) = some (mk L u v (va_up I a (upd (I a) 8 x)) F J) := pz_i ((mk_get (by have := isB_lt ha; omega)).trans (congrArg some (mkC_B ha).1)) (Nat.le_of_ble_eq_true rfl) rfl (mk_set (by have := isB_lt ha; omega) (fun _ h => up_n h) (fun _ _ => rfl) (fun _ _ => rfl) (by rw [(mkC_B ha).1, up_s]; rfl))
theorem gB_a {a : Nat} {i : Int32} (ha : isB a = true) : gA (mk L u v I F J) (a + 1) i = if vB i 3 = true then some (F (a + 1) i.toNatClampNeg) else none := gz_a ((mk_get (isB_lt ha)).trans (congrArg some (mkC_B ha).2))
theorem pB_a {a : Nat} {i x : Int32} (ha : isB a = true) : pA (mk L u v I F J) (a + 1) i x = if vB i 3 = true then some (mk L u v I (va_up F (a + 1) (upd (F (a + 1)) i.toNatClampNeg x)) J) else none := pz_a ((mk_get (isB_lt ha)).trans (congrArg some (mkC_B ha).2)) (mk_set (isB_lt ha) (fun _ _ => rfl) (fun _ h => up_n h) (fun _ _ => rfl) (by rw [(mkC_B ha).2, up_s]))
end MK
