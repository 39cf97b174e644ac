/-! what exec says is what the machine does -/
def ad (b base : Nat) (a : Nat) : Nat := match a with
  | 0 => b
  | k + 1 => base + k
def tr (b base : Nat) (v : Value) : Value := match v with
  | .ref a => .ref (ad b base a)
  | v => v
abbrev Wd : Type := va_G × Nat × Nat × Nat × Nat × Nat
/-- a world: the classes' numbers; those of int[], boolean[], Barn[]; the script's cell; the first new cell -/
def encE (g : Wd) (c : Cel) : va_E := match c with
  | .inl (ci, fs) => .inr (ci, fs.map (tr g.2.2.2.2.1 g.2.2.2.2.2))
  | .inr (.inl (k, n, f)) => .inl (if k = 1 then g.2.2.1 else g.2.1, n, .inl f)
  | .inr (.inr (n, q)) => .inl (g.2.2.2.1, n, .inr (.inr (.inr (.inr (fun j => (q j).map (ad g.2.2.2.2.1 g.2.2.2.2.2))))))
def enc (g : Wd) (i : Nat) (c : Cel) : Nat × va_E := (g.2.2.2.2.2 + i, encE g c)
def wsO (g : Wd) (h : List Cel) : va_W := (h.drop 1).mapIdx (enc g)
theorem wsO_get {g : Wd} {h : List Cel} {a : Nat} {c : Cel} (H : h[a + 1]? = some c) : (wsO g h)[a]? = some (enc g a c) := by
  unfold wsO
  rw [List.getElem?_mapIdx, List.getElem?_drop, Nat.add_comm 1 a, H]
  rfl
theorem wsO_inv {g : Wd} {h : List Cel} {a : Nat} {q : Nat × va_E} (H : (wsO g h)[a]? = some q) : ∃ c, h[a + 1]? = some c ∧ q = enc g a c := by
  unfold wsO at H
  rw [List.getElem?_mapIdx, List.getElem?_drop, Nat.add_comm 1 a] at H
  cases hc : h[a + 1]? with
  | none => rw [hc] at H; cases H
  | some c => rw [hc] at H; exact ⟨c, rfl, (Option.some.inj H).symm⟩
theorem wsO_set {g : Wd} {h : List Cel} {a : Nat} {c : Cel} : (wsO g h).set a (enc g a c) = wsO g (h.set (a + 1) c) := by
  apply List.ext_getElem?
  intro i
  unfold wsO
  rw [List.getElem?_set, List.getElem?_mapIdx, List.getElem?_mapIdx, List.getElem?_drop, List.getElem?_drop, List.getElem?_set, List.length_mapIdx, List.length_drop]
  by_cases e : a = i
  · subst e
    rw [if_pos rfl, if_pos (by omega : a + 1 = 1 + a)]
    by_cases l : a < h.length - 1
    · rw [if_pos l, if_pos (by omega)]; rfl
    · rw [if_neg l, if_neg (by omega)]; rfl
  · rw [if_neg e, if_neg (by omega)]
theorem wsO_push {g : Wd} {h : List Cel} {c : Cel} (hn : 0 < h.length) : wsO g (h ++ [c]) = wsO g h ++ [enc g (h.length - 1) c] := by
  unfold wsO
  rw [List.drop_append_of_le_length hn, List.mapIdx_append]
  simp
theorem wsO_len {g : Wd} {h : List Cel} : (wsO g h).length = h.length - 1 := by
  unfold wsO
  simp
def A0 (g : Wd) : Nat → Prop := fun q => g.2.2.2.2.2 ≤ q
theorem wsO_D {g : Wd} {h : List Cel} : va_D (A0 g) (wsO g h) := by
  refine ⟨fun i j p q hi hj e => ?_, fun k q hk => ?_⟩
  · obtain ⟨c, -, rfl⟩ := wsO_inv hi
    obtain ⟨c2, -, rfl⟩ := wsO_inv hj
    simp only [enc] at e
    omega
  · obtain ⟨c, -, rfl⟩ := wsO_inv hk
    exact Nat.le_add_right _ _
def tysO (g : Wd) : List (ClassId × FieldType) := [(g.2.1, .int), (g.2.2.1, .boolean), (g.2.2.2.1, .object RX0)]
/-- the abstract heap is in the machine's -/
def HS (g : Wd) (h : List Cel) (U : State) (H : Heap) : Prop :=
  H.size + 1 = g.2.2.2.2.2 + h.length ∧ va_P g.1 vwCl (wsO g h) H ∧ ∃ (L : Nat) (xs : Nat → Int32), h[0]? = some (.inr (.inl (2, L, xs))) ∧ va_X g.2.2.2.2.1 L xs U H
/-- what stays of the tables -/
def KS (g : Wd) (U : State) : Prop :=
  va_K g.1 vwCl (tysO g) U ∧ va_AO RX0 U ∧ ∀ q ∈ tx_nest, va_Nw (.methodLinkNest q.1 q.2.1 q.2.2.1 q.2.2.2) U
theorem HS.moved {g : Wd} {h : List Cel} {u U : State} {H : Heap} (hvm : u.vm.Alike U.vm) (X : HS g h u H) : HS g h U H := by
  obtain ⟨h1, h2, L, xs, h3, h4⟩ := X
  exact ⟨h1, h2, L, xs, h3, va_X.moved hvm h4⟩
theorem KS.warm {g : Wd} {u U : State} (hW : u.WarmedH U.vm) (X : KS g u) : KS g U :=
  ⟨va_K.moved hW.alike X.1, va_AO.moved hW.alike X.2.1, fun q hq => va_Nw.warmM hW (X.2.2 q hq)⟩
theorem KS.same {g : Wd} {u U : State} (h : u.vm = U.vm) (X : KS g u) : KS g U :=
  ⟨va_K.moved (by rw [h]; exact Vm.Alike.refl _) X.1, va_AO.moved (by rw [h]; exact Vm.Alike.refl _) X.2.1, fun q hq => va_Nw.same rfl h (X.2.2 q hq)⟩
/-- the locals -/
def LR (g : Wd) (nL : Nat) (ls : List Value) (la : Array Slot) : Prop :=
  ls.length = nL ∧ la.size = nL ∧ lv_wf la ∧ (∀ (i : Nat) (v : Value), ls[i]? = some v → v.category = 1) ∧ ∀ (i : Nat) (v : Value), ls[i]? = some v → v ≠ .float 0 → la[i]? = some (.val (tr g.2.2.2.2.1 g.2.2.2.2.2 v))
theorem tr_cat (b base : Nat) (v : Value) : (tr b base v).category = v.category := by
  cases v <;> rfl
theorem tr_wt (b base : Nat) (st : List Value) : ((st.map (tr b base)).map fun v => v.category).sum = wt st := by
  unfold wt
  rw [List.map_map]
  congr 1
  exact List.map_congr_left fun v _ => tr_cat b base v
section SND
variable {p : Program} {l : Launch} {e : Env} {R : Room} {s : State} {m : MethodId} {args : Array Value} {below : List Frame} {meth : Method} {c : Code} {Q : State → Prop} {g : Wd} {mid : Nat}
/-- the fixed facts of a method's body -/
def Cx (p : Program) (R : Room) (s : State) (m : MethodId) (args : Array Value) (meth : Method) (c : Code) (g : Wd) (mid : Nat) : Prop :=
  p.tables.exec = Jvm.exec ∧ c.code = bO mid ∧ c.maxLocals = lO mid ∧ s.vm.findClass (tx_R (oO mid)) = some m.cls ∧ (∀ w ∈ tx_B, w.before args s = true) ∧ KS g s ∧ fO mid ≤ R.frames ∧ qO mid ≤ R.locals ∧ ((yO mid).name = "<init>" → meth.name = (yO mid).name) ∧ g.2.2.2.2.2 ≤ s.heap.size ∧ g.2.2.2.2.1 < g.2.2.2.2.2
/-- the walk from an abstract state -/
def WA (p : Program) (l : Launch) (e : Env) (R : Room) (s : State) (m : MethodId) (args : Array Value) (below : List Frame) (meth : Method) (c : Code) (Q : State → Prop) (g : Wd) (mid : Nat) (cells slots pc : Nat) (ls st : List Value) (h : List Cel) : Prop :=
  ∀ (H : Heap) (locs : List Loc) (la : Array Slot), HS g h s H → va_S (A0 g) s.heap H locs → LR g (lO mid) ls la → W p l e R s m args below meth c H locs cells slots Q (F0 m pc la (st.map (tr g.2.2.2.2.1 g.2.2.2.2.2)))
theorem Cx.hA (X : Cx p R s m args meth c g mid) : ∀ q, s.heap.size ≤ q → A0 g q := fun q h => Nat.le_trans X.2.2.2.2.2.2.2.2.2.1 h
variable {cells slots pc : Nat} {ls st : List Value} {h : List Cel}
theorem LR.at {nL : Nat} {la : Array Slot} (X : LR g nL ls la) {i : Nat} {v : Value} (hi : ls[i]? = some v) (hv : v ≠ .float 0) : la[i]? = some (.val (tr g.2.2.2.2.1 g.2.2.2.2.2 v)) := X.2.2.2.2 i v hi hv
/-- the locals as the kit lists them -/
def lvO (g : Wd) (ls : List Value) : List (Nat × Value) := (ls.zipIdx).filterMap fun q => if q.1 = .float 0 then none else some (q.2, tr g.2.2.2.2.1 g.2.2.2.2.2 q.1)
theorem lvO_mem {q : Nat × Value} (hq : q ∈ lvO g ls) : ∃ v, ls[q.1]? = some v ∧ v ≠ .float 0 ∧ q.2 = tr g.2.2.2.2.1 g.2.2.2.2.2 v := by
  unfold lvO at hq
  obtain ⟨⟨v, i⟩, h1, h2⟩ := List.mem_filterMap.mp hq
  have h1 := List.mem_zipIdx_iff_getElem?.mp h1
  dsimp only at h1 h2
  by_cases e : v = .float 0
  · rw [if_pos e] at h2; cases h2
  · rw [if_neg e] at h2
    cases h2
    exact ⟨v, h1, e, rfl⟩
theorem mem_lvO {i : Nat} {v : Value} (hi : ls[i]? = some v) (hv : v ≠ .float 0) : (i, tr g.2.2.2.2.1 g.2.2.2.2.2 v) ∈ lvO g ls := by
  unfold lvO
  refine List.mem_filterMap.mpr ⟨(v, i), List.mem_zipIdx_iff_getElem?.mpr hi, ?_⟩
  rw [if_neg hv]
theorem LR.has {nL : Nat} {la : Array Slot} (X : LR g nL ls la) : lv_has la nL (lvO g ls) := by
  refine ⟨X.2.1, X.2.2.1, fun q hq => ?_⟩
  obtain ⟨v, h1, h2, h3⟩ := lvO_mem hq
  rw [h3]
  exact X.at h1 h2
theorem LR.set {nL a : Nat} {la la' : Array Slot} {v : Value} (X : LR g nL ls la) (ha : a < nL) (hv : v.category = 1) (hl : lv_has la' nL ((a, tr g.2.2.2.2.1 g.2.2.2.2.2 v) :: (lvO g ls).filter (fun q => !(q.1 == a) && !(q.1 + 1 == a && q.2.category == 2)))) : LR g nL (ls.set a v) la' := by
  refine ⟨by rw [List.length_set]; exact X.1, hl.1, hl.2.1, fun i w hi => ?_, fun i w hi hw => ?_⟩
  · rw [List.getElem?_set] at hi
    by_cases e : a = i
    · rw [if_pos e] at hi
      split at hi
      · cases hi; exact hv
      · cases hi
    · rw [if_neg e] at hi
      exact X.2.2.2.1 i w hi
  · rw [List.getElem?_set] at hi
    by_cases e : a = i
    · subst e
      rw [if_pos rfl, if_pos (by rw [X.1]; exact ha)] at hi
      cases hi
      exact hl.2.2 _ List.mem_cons_self
    · rw [if_neg e] at hi
      refine hl.2.2 (i, _) (List.mem_cons_of_mem _ (List.mem_filter.mpr ⟨mem_lvO hi hw, ?_⟩))
      have h1 : (i == a) = false := beq_eq_false_iff_ne.mpr (Ne.symm e)
      have h2 : ((tr g.2.2.2.2.1 g.2.2.2.2.2 w).category == 2) = false := by rw [tr_cat, X.2.2.2.1 i w hi]; rfl
      show (!(i == a) && !(i + 1 == a && ((tr g.2.2.2.2.1 g.2.2.2.2.2 w).category == 2))) = true
      rw [h1, h2, Bool.and_false]
      rfl
theorem dq_eq {i : Instr} {n : Nat} (hd : dq mid pc i n = true) : decode (bO mid) pc = .ok (i, n) := of_decide_eq_true hd
-- inversions
theorem bin_inv {f : Int32 → Int32 → Int32} {q : Cfg} (hs : bin f pc ls st h = some q) : ∃ y x r, st = .int y :: .int x :: r ∧ q = (pc + 1, ls, .int (f x y) :: r, h) := by
  unfold bin at hs
  split at hs
  · cases hs; exact ⟨_, _, _, rfl, rfl⟩
  · cases hs
theorem lod_inv {n a : Nat} {q : Cfg} (hs : lod n a pc ls st h = some q) : ∃ x, ls[a]? = some (.int x) ∧ q = (pc + n, ls, .int x :: st, h) := by
  unfold lod at hs
  split at hs
  · rename_i x hx; cases hs; exact ⟨_, hx, rfl⟩
  · cases hs
theorem loa_inv {a : Nat} {q : Cfg} (hs : loa a pc ls st h = some q) : ∃ x, ls[a]? = some (.ref x) ∧ q = (pc + 1, ls, .ref x :: st, h) := by
  unfold loa at hs
  split at hs
  · rename_i x hx; cases hs; exact ⟨_, hx, rfl⟩
  · cases hs
theorem sto_inv {n a : Nat} {q : Cfg} (hs : sto n a pc ls st h = some q) : ∃ x r, st = .int x :: r ∧ q = (pc + n, ls.set a (.int x), r, h) := by
  unfold sto at hs
  split at hs
  · cases hs; exact ⟨_, _, rfl, rfl⟩
  · cases hs
theorem gF_inv {a ci k : Nat} {v : Value} (hs : gF h a ci k = some v) : ∃ fs, h[a]? = some (.inl (ci, fs)) ∧ fs[k]? = some v := by
  unfold gF at hs
  split at hs
  · rename_i c0 fs hc
    by_cases e : c0 = ci
    · subst e; rw [if_pos rfl] at hs; exact ⟨fs, hc, hs⟩
    · rw [if_neg e] at hs; cases hs
  · cases hs
theorem pF_inv {a ci k : Nat} {v : Value} {h' : List Cel} (hs : pF h a ci k v = some h') : ∃ fs, h[a]? = some (.inl (ci, fs)) ∧ k < fs.length ∧ narrow (tx_ty ci k) v = v ∧ fits (tx_ty ci k) v = true ∧ h' = h.set a (.inl (ci, fs.set k v)) := by
  unfold pF at hs
  split at hs
  · rename_i c0 fs hc
    by_cases e : c0 = ci ∧ k < fs.length ∧ narrow (tx_ty ci k) v = v ∧ fits (tx_ty ci k) v = true
    · rw [if_pos e] at hs
      obtain ⟨rfl, e2, e3, e4⟩ := e
      exact ⟨fs, hc, e2, e3, e4, (Option.some.inj hs).symm⟩
    · rw [if_neg e] at hs; cases hs
  · cases hs
theorem gA_inv {a : Nat} {i x : Int32} (hs : gA h a i = some x) : ∃ k n f, h[a]? = some (.inr (.inl (k, n, f))) ∧ k ≠ 1 ∧ vp_in i n ∧ x = f i.toNatClampNeg := by
  unfold gA at hs
  split at hs
  · rename_i k n f hc
    by_cases e : k ≠ 1 ∧ vB i n = true
    · rw [if_pos e] at hs; exact ⟨k, n, f, hc, e.1, vB_in e.2, (Option.some.inj hs).symm⟩
    · rw [if_neg e] at hs; cases hs
  · cases hs
theorem gZ_inv {a : Nat} {i x : Int32} (hs : gZ h a i = some x) : ∃ n f, h[a]? = some (.inr (.inl (1, n, f))) ∧ vp_in i n ∧ x = f i.toNatClampNeg := by
  unfold gZ at hs
  split at hs
  · rename_i k n f hc
    by_cases e : k = 1 ∧ vB i n = true
    · rw [if_pos e] at hs
      obtain ⟨rfl, e⟩ := e
      exact ⟨n, f, hc, vB_in e, (Option.some.inj hs).symm⟩
    · rw [if_neg e] at hs; cases hs
  · cases hs
theorem pA_inv {a : Nat} {i x : Int32} {h' : List Cel} (hs : pA h a i x = some h') : ∃ n f, h[a]? = some (.inr (.inl (0, n, f))) ∧ vp_in i n ∧ h' = h.set a (.inr (.inl (0, n, upd f i.toNatClampNeg x))) := by
  unfold pA at hs
  split at hs
  · rename_i k n f hc
    by_cases e : k = 0 ∧ vB i n = true
    · rw [if_pos e] at hs
      obtain ⟨rfl, e⟩ := e
      exact ⟨n, f, hc, vB_in e, (Option.some.inj hs).symm⟩
    · rw [if_neg e] at hs; cases hs
  · cases hs
theorem pZ_inv {a : Nat} {i x : Int32} {h' : List Cel} (hs : pZ h a i x = some h') : ∃ n f, h[a]? = some (.inr (.inl (1, n, f))) ∧ vp_in i n ∧ x &&& 1 = x ∧ h' = h.set a (.inr (.inl (1, n, upd f i.toNatClampNeg x))) := by
  unfold pZ at hs
  split at hs
  · rename_i k n f hc
    by_cases e : k = 1 ∧ vB i n = true ∧ x &&& 1 = x
    · rw [if_pos e] at hs
      obtain ⟨rfl, e, e2⟩ := e
      exact ⟨n, f, hc, vB_in e, e2, (Option.some.inj hs).symm⟩
    · rw [if_neg e] at hs; cases hs
  · cases hs
theorem gQ_inv {a : Nat} {i : Int32} {v : Value} (hs : gQ h a i = some v) : ∃ n q, h[a]? = some (.inr (.inr (n, q))) ∧ vp_in i n ∧ v = va_rf (q i.toNatClampNeg) := by
  unfold gQ at hs
  split at hs
  · rename_i n f hc
    by_cases e : vB i n = true
    · rw [if_pos e] at hs
      exact ⟨n, f, hc, vB_in e, (Option.some.inj hs).symm⟩
    · rw [if_neg e] at hs; cases hs
  · cases hs
theorem pQ_inv {a : Nat} {i : Int32} {v : Nat} {h' : List Cel} (hs : pQ h a i v = some h') : ∃ n q fs, h[a]? = some (.inr (.inr (n, q))) ∧ h[v]? = some (.inl (0, fs)) ∧ vp_in i n ∧ h' = h.set a (.inr (.inr (n, va_up q i.toNatClampNeg (some v)))) := by
  unfold pQ at hs
  split at hs
  · rename_i n f fs hc hc2
    by_cases e : vB i n = true
    · rw [if_pos e] at hs
      exact ⟨n, f, fs, hc, hc2, vB_in e, (Option.some.inj hs).symm⟩
    · rw [if_neg e] at hs; cases hs
  · cases hs
theorem gL_inv {a : Nat} {x : Int32} (hs : gL h a = some x) : a = 0 ∧ ∃ kd n f, h[0]? = some (.inr (.inl (kd, n, f))) ∧ x = Int32.ofNat n := by
  unfold gL at hs
  by_cases e : a = 0
  · rw [if_pos e] at hs
    split at hs
    · rename_i k n f hc
      exact ⟨e, k, n, f, hc, (Option.some.inj hs).symm⟩
    · cases hs
  · rw [if_neg e] at hs; cases hs
/-- a cell that is not the script lies in the machine's world -/
theorem HS.in {a : Nat} {x : Cel} {H : Heap} (X : HS g h s H) (hx : h[a]? = some x) (hn : ∀ L xs, x ≠ .inr (.inl (2, L, xs))) : ∃ k, a = k + 1 := by
  cases a with
  | zero =>
    obtain ⟨-, -, L, xs, h3, -⟩ := X
    rw [hx] at h3
    exact absurd (Option.some.inj h3) (hn L xs)
  | succ k => exact ⟨k, rfl⟩
theorem HS.put {k : Nat} {x x' : Cel} {H H1 : Heap} (X : HS g h s H) (hb : g.2.2.2.2.1 < g.2.2.2.2.2) (hx : h[k + 1]? = some x) (hP : va_P g.1 vwCl ((wsO g h).set k (enc g k x')) H1) (z : H1.size = H.size) (oq : ∀ q : Nat, q ≠ g.2.2.2.2.2 + k → H1[q]? = H[q]?) : HS g (h.set (k + 1) x') s H1 := by
  obtain ⟨h1, h2, L, xs, h3, h4⟩ := X
  refine ⟨by rw [z, List.length_set]; exact h1, by rw [← wsO_set]; exact hP, L, xs, by rw [List.getElem?_set_ne (by omega)]; exact h3, va_X.kept h4 (oq _ (by omega))⟩
/-- an object's field is stored, the heap's size stays -/
theorem w_put {H : Heap} {locs : List Loc} {la : Array Slot} {rest : List Value} {k ci j index : Nat} {fs : List Value} {v : Value} (X : Cx p R s m args meth c g mid) (h1 : HS g h s H) (h2 : va_S (A0 g) s.heap H locs) (he : h[k + 1]? = some (.inl (ci, fs))) (hci : ci < 8) (hj : j < tx_N ci) (hl : j < fs.length)
    (hlink : Cond.fieldLink (tx_R (oO mid)) index (tx_T ci j).1 (tx_T ci j).2.1 (tx_T ci j).2.2.1 ∈ tx_B) (hfin : (tx_T ci j).2.2.2 = false ∨ ((yO mid).name = "<init>" ∧ (tx_T ci j).1 = tx_R (oO mid)))
    (hn : narrow (tx_ty ci j) v = v) (hfit : fits (tx_ty ci j) v = true) (hdg : decode (bO mid) pc = .ok (.putfield index, 3))
    (kk : ∀ (H1 : Heap) (locs1 : List Loc), HS g (h.set (k + 1) (.inl (ci, fs.set j v))) s H1 → va_S (A0 g) s.heap H1 locs1 → W p l e R s m args below meth c H1 locs1 cells slots Q (F0 m (pc + 3) la rest)) :
    W p l e R s m args below meth c H locs cells slots Q (F0 m pc la (tr g.2.2.2.2.1 g.2.2.2.2.2 v :: .ref (g.2.2.2.2.2 + k) :: rest)) := by
  obtain ⟨hx, hb, hml, hown, hts, ⟨hK, -, -⟩, -, -, hnm, hba, hbb⟩ := id X
  have hin : ∀ w ∈ u_ws (tx_R ci) (tx_T ci) (tx_N ci), w ∈ tx_B := tx_in ci hci
  have hc : vwCl[ci]? = some (tx_R ci, tx_T ci, tx_N ci) := tx_cl ci hci
  have hap := va_apart (own := tx_R (oO mid)) hts hin (tx_ty ci) (tx_tyok ci hci) (tx_nm ci hci) hK hc
  have hd := tx_tyok ci hci j hj
  have hn' : narrow (tx_ty ci j) (tr g.2.2.2.2.1 g.2.2.2.2.2 v) = tr g.2.2.2.2.1 g.2.2.2.2.2 v := by
    cases v with
    | ref a => cases tx_ty ci j <;> rfl
    | _ => exact hn
  have hfit' : fits (tx_ty ci j) (tr g.2.2.2.2.1 g.2.2.2.2.2 v) = true := by
    cases v with
    | ref a =>
      generalize tx_ty ci j = t at hfit ⊢
      cases t <;> exact hfit
    | _ => exact hfit
  obtain ⟨hsz, hP, hscr⟩ := id h1
  have hws := wsO_get (g := g) he
  obtain ⟨r, g1, cell, q1, q2, q3, q4⟩ := hP k _ hws
  have hr : r = (tx_R ci, tx_T ci, tx_N ci) := Option.some.inj (g1.symm.trans hc)
  subst hr
  obtain ⟨hS, hfc, kC, hkC, hkind⟩ := hK.1 ci _ hc
  obtain ⟨cf, kf, fi, f, hi, hsl⟩ := hS j hj
  have hst := (u_facts hfc hkC (u_lays hts hin hj) hi).1
  have h6 := u_fits hfc hkC hkind (u_lays hts hin hj) hi hd hn' hfit'
  have fin : ∀ (H' : Heap) (locs1 : List Loc), H'[g.2.2.2.2.2 + k]? = some (cell.setSlot ((g.1.2 ci) j) (tr g.2.2.2.2.1 g.2.2.2.2.2 v)) → H'.size = H.size → (∀ q, q ≠ g.2.2.2.2.2 + k → H'[q]? = H[q]?) → locs1 = locs ++ [⟨g.2.2.2.2.2 + k, f.slot⟩] → W p l e R s m args below meth c H' locs1 cells slots Q (F0 m (pc + 3) la rest) := by
    intro H' locs1 e1 e2 e3 el
    subst el
    refine kk H' _ (h1.put hbb he ?_ e2 e3) (h2.put e2 e3 (Nat.le_add_right _ _))
    refine hP.set wsO_D hws ?_ e3
    refine ⟨_, hc, ?_⟩
    refine t_OB.to (V := updV (vp_V (fs.map (tr g.2.2.2.2.1 g.2.2.2.2.2))) j (tr g.2.2.2.2.1 g.2.2.2.2.2 v)) ⟨_, e1, q2, q3, t_set q4 hap hj _⟩ (fun i _ => ?_)
    rw [vp_updV_set (by rw [List.length_map]; exact hl)]
    rw [← List.map_set]
  rcases hfin with hf | ⟨hf1, hf2⟩
  · by_cases hq : (tx_T ci j).2.2.2 = false
    · have hlay := hts _ (hin _ (u_in_lay hj))
      unfold u_lay at hlay
      rw [if_neg (by rw [hq]; decide)] at hlay
      have h6 := u_store hfc hkC hkind hlay hi hd hn' hfit'
      refine W.putK hx hb (f := f) ⟨hown, hts _ hlink, ⟨_, _, _, hi⟩, hst⟩ (by rw [q2]; exact h6) q1 q3 (by rw [hsl]; exact k2_hasslot (q4 j hj)) rfl rfl hdg fun H' e1 e2 e3 => ?_
      rw [hsl] at e1
      exact fin H' _ e1 e2 e3 rfl
    · exact absurd hf hq
  · by_cases hq : (tx_T ci j).2.2.2 = false
    · have hlay := hts _ (hin _ (u_in_lay hj))
      unfold u_lay at hlay
      rw [if_neg (by rw [hq]; decide)] at hlay
      have h6 := u_store hfc hkC hkind hlay hi hd hn' hfit'
      refine W.putK hx hb (f := f) ⟨hown, hts _ hlink, ⟨_, _, _, hi⟩, hst⟩ (by rw [q2]; exact h6) q1 q3 (by rw [hsl]; exact k2_hasslot (q4 j hj)) rfl rfl hdg fun H' e1 e2 e3 => ?_
      rw [hsl] at e1
      exact fin H' _ e1 e2 e3 rfl
    · have hq : (tx_T ci j).2.2.2 = true := by
        cases hh : (tx_T ci j).2.2.2
        · exact absurd hh hq
        · rfl
      have hlay := hts _ (hin _ (u_in_lay hj))
      unfold u_lay at hlay
      rw [if_pos hq] at hlay
      have hcf : m.cls = cf := by
        obtain ⟨_, _, c', _, _, _, -, -, hf', -, -, -, hown2, -⟩ := Cond.laysFinal_spec hlay
        have e1 : c' = cf := by have := hi.symm.trans hf'; simp at this; exact this.1.symm
        rw [hf2] at hown2
        rw [← e1]; exact Option.some.inj (hown.symm.trans hown2)
      refine W.putFinK hx hb hown (hts _ hlink) hi hst hcf ((hnm hf1).trans hf1) (by rw [q2]; exact h6) q1 q3 (by rw [hsl]; exact k2_hasslot (q4 j hj)) rfl rfl hdg fun H' e1 e2 e3 => ?_
      rw [hsl] at e1
      exact fin H' _ e1 e2 e3 rfl
end SND
