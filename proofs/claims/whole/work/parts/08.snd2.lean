section SND2
variable {p : Program} {l : Launch} {e : Env} {R : Room} {s : State} {m : MethodId} {args : Array Value} {below : List Frame} {meth : Method} {c : Code} {Q : State → Prop} {g : Wd} {mid : Nat} {cells slots pc : Nat} {ls st : List Value} {h : List Cel}
theorem tysO_i (X : Cx p R s m args meth c g mid) : ArrOfT s g.2.1 .int ∧ va_RA s g.2.1 .int := X.2.2.2.2.2.1.1.2 0 _ rfl
theorem tysO_b (X : Cx p R s m args meth c g mid) : ArrOfT s g.2.2.1 .boolean ∧ va_RA s g.2.2.1 .boolean := X.2.2.2.2.2.1.1.2 1 _ rfl
theorem tysO_r (X : Cx p R s m args meth c g mid) : ArrOfT s g.2.2.2.1 (.object RX0) ∧ va_RA s g.2.2.2.1 (.object RX0) := X.2.2.2.2.2.1.1.2 2 _ rfl
theorem w_iast {H : Heap} {locs : List Loc} {la : Array Slot} {rest : List Value} {k n : Nat} {f : Nat → Int32} {i x : Int32} (X : Cx p R s m args meth c g mid) (h1 : HS g h s H) (h2 : va_S (A0 g) s.heap H locs) (he : h[k + 1]? = some (.inr (.inl (0, n, f)))) (hin : vp_in i n) (hdg : decode (bO mid) pc = .ok (.iastore, 1))
    (kk : ∀ (H1 : Heap) (locs1 : List Loc), HS g (h.set (k + 1) (.inr (.inl (0, n, upd f i.toNatClampNeg x)))) s H1 → va_S (A0 g) s.heap H1 locs1 → W p l e R s m args below meth c H1 locs1 cells slots Q (F0 m (pc + 1) la rest)) :
    W p l e R s m args below meth c H locs cells slots Q (F0 m pc la (.int x :: .int i :: .ref (g.2.2.2.2.2 + k) :: rest)) := by
  obtain ⟨hsz, hP, hscr⟩ := id h1
  have hws := wsO_get (g := g) he
  have hbb := X.2.2.2.2.2.2.2.2.2.2
  refine W.iast X.1 X.2.1 (hP k _ hws) ((tysO_i X).1 n (fun j => .int (f j))) (fun q => by cases q) (by show ¬ (i < 0 ∨ (arrV _ _ _).slots.size ≤ _); rw [arrV_size]; exact hin) rfl rfl hdg fun H1 e z oq => ?_
  refine kk H1 _ (h1.put hbb he ?_ z oq) (h2.put z oq (Nat.le_add_right _ _))
  refine hP.set wsO_D hws ?_ oq
  refine e.trans ?_
  show some ((vp_cell g.2.1 (n, .inl f)).setSlot _ _) = some (vp_cell g.2.1 (n, .inl _))
  rw [vp_cell_i, vp_cell_i, arrV_store]
  congr 2
  funext q
  by_cases hq : q = i.toNatClampNeg
  · subst hq
    simp [updV, upd]
  · simp [updV, upd, hq]
theorem w_zast {H : Heap} {locs : List Loc} {la : Array Slot} {rest : List Value} {k n : Nat} {f : Nat → Int32} {i x : Int32} (X : Cx p R s m args meth c g mid) (h1 : HS g h s H) (h2 : va_S (A0 g) s.heap H locs) (he : h[k + 1]? = some (.inr (.inl (1, n, f)))) (hin : vp_in i n) (hz : x &&& 1 = x) (hdg : decode (bO mid) pc = .ok (.bastore, 1))
    (kk : ∀ (H1 : Heap) (locs1 : List Loc), HS g (h.set (k + 1) (.inr (.inl (1, n, upd f i.toNatClampNeg x)))) s H1 → va_S (A0 g) s.heap H1 locs1 → W p l e R s m args below meth c H1 locs1 cells slots Q (F0 m (pc + 1) la rest)) :
    W p l e R s m args below meth c H locs cells slots Q (F0 m pc la (.int x :: .int i :: .ref (g.2.2.2.2.2 + k) :: rest)) := by
  obtain ⟨hsz, hP, hscr⟩ := id h1
  have hws := wsO_get (g := g) he
  have hbb := X.2.2.2.2.2.2.2.2.2.2
  refine W.zast X.1 X.2.1 (hP k _ hws) ((tysO_b X).1 n (fun j => .int (f j))) (fun q => by cases q) (by show ¬ (i < 0 ∨ (arrV _ _ _).slots.size ≤ _); rw [arrV_size]; exact hin) rfl rfl hdg fun H1 e z oq => ?_
  refine kk H1 _ (h1.put hbb he ?_ z oq) (h2.put z oq (Nat.le_add_right _ _))
  refine hP.set wsO_D hws ?_ oq
  refine e.trans ?_
  show some ((vp_cell g.2.2.1 (n, .inl f)).setSlot _ (.int (x &&& 1))) = some (vp_cell g.2.2.1 (n, .inl _))
  rw [hz, vp_cell_i, vp_cell_i, arrV_store]
  congr 2
  funext q
  by_cases hq : q = i.toNatClampNeg
  · subst hq
    simp [updV, upd]
  · simp [updV, upd, hq]
theorem w_qast {H : Heap} {locs : List Loc} {la : Array Slot} {rest : List Value} {k n v : Nat} {f : Nat → Option Nat} {fs : List Value} {i : Int32} (X : Cx p R s m args meth c g mid) (h1 : HS g h s H) (h2 : va_S (A0 g) s.heap H locs) (he : h[k + 1]? = some (.inr (.inr (n, f)))) (hv : h[v + 1]? = some (.inl (0, fs))) (hin : vp_in i n) (hdg : decode (bO mid) pc = .ok (.aastore, 1))
    (kk : ∀ (H1 : Heap) (locs1 : List Loc), HS g (h.set (k + 1) (.inr (.inr (n, va_up f i.toNatClampNeg (some (v + 1)))))) s H1 → va_S (A0 g) s.heap H1 locs1 → W p l e R s m args below meth c H1 locs1 cells slots Q (F0 m (pc + 1) la rest)) :
    W p l e R s m args below meth c H locs cells slots Q (F0 m pc la (.ref (g.2.2.2.2.2 + v) :: .int i :: .ref (g.2.2.2.2.2 + k) :: rest)) := by
  obtain ⟨hsz, hP, hscr⟩ := id h1
  have hws := wsO_get (g := g) he
  have hwv := wsO_get (g := g) hv
  have hbb := X.2.2.2.2.2.2.2.2.2.2
  have hK := X.2.2.2.2.2.1.1
  have hlt : i.toNatClampNeg < n := Nat.not_le.mp fun q => hin (Or.inr q)
  have h0 : ¬ i < 0 := fun q => hin (Or.inl q)
  obtain ⟨r', hr', cellV, g1, g2, g3, -⟩ := hP v _ hwv
  have hcls := (hK.1 0 (RX0, TX0, 10) rfl).2
  obtain ⟨kA, comp, k1, k2, k3, -⟩ := (tysO_r X).2
  have hcomp : comp = g.1.1 0 := Option.some.inj (k3.symm.trans hcls.1)
  subst hcomp
  obtain ⟨kC, hkC, -⟩ := hcls.2
  refine W.aast X.1 X.2.1 (hP k _ hws) (fun q h => by cases h) (fun h => by cases h) k1 k2 rfl hkC ⟨h0, by show _ < (arrV _ _ _).slots.size; rw [arrV_size]; exact hlt⟩ g1 (fun q h => by rw [g3] at h; cases h) (by rw [g2]; exact hkC) (by rw [g2]; exact va_assign hcls) rfl rfl hdg fun H1 e z oq => ?_
  refine kk H1 _ (h1.put hbb he ?_ z oq) (h2.put z oq (Nat.le_add_right _ _))
  refine hP.set wsO_D hws ?_ oq
  refine e.trans ?_
  show some ((vp_cell g.2.2.2.1 (n, .inr (.inr (.inr (.inr _))))).setSlot _ _) = some (vp_cell g.2.2.2.1 (n, .inr (.inr (.inr (.inr _)))))
  rw [vp_cell_q, vp_cell_q, arrV_store]
  congr 2
  funext q
  by_cases hq : q = i.toNatClampNeg
  · subst hq
    simp [updV, va_up, va_rf, ad]
    rfl
  · simp [updV, va_up, hq]
/-- a new cell: what all three kinds share -/
theorem HS.push {x : Cel} {H H1 : Heap} (X : HS g h s H) (hb : g.2.2.2.2.1 < g.2.2.2.2.2) (z : H1.size = H.size + 1) (hx : va_at g.1 vwCl (enc g (h.length - 1) x) H1) (oq : ∀ q : Nat, q < H.size → H1[q]? = H[q]?) : HS g (h ++ [x]) s H1 := by
  obtain ⟨h1, h2, L, xs, h3, h4⟩ := X
  have hl : 0 < h.length := (List.getElem?_eq_some_iff.mp h3).1
  refine ⟨by rw [z, List.length_append, List.length_singleton]; omega, ?_, L, xs, by rw [List.getElem?_append_left hl]; exact h3, va_X.kept h4 (oq _ (by omega))⟩
  rw [wsO_push hl]
  refine va_P.app (h2.kept fun k q hk => oq _ (h2 k q hk).lt) (fun k q hk => ?_)
  have hz : k < 1 := (List.getElem?_eq_some_iff.mp hk).1
  rw [show k = 0 by omega] at hk
  cases hk
  exact hx
theorem sl_app {x : Cel} : sl (h ++ [x]) = sl h + csz x := by
  unfold sl
  simp
theorem S.grow {A : Nat → Prop} {H0 H H1 : Heap} {locs : List Loc} (hS : va_S A H0 H locs) (z : H1.size = H.size + 1) (oq : ∀ q : Nat, q < H.size → H1[q]? = H[q]?) : va_S A H0 H1 locs :=
  ⟨Nat.le_trans hS.1 (by omega), fun x h1 h2 => (oq x (Nat.lt_of_lt_of_le h1 hS.1)).trans (hS.2.1 x h1 h2), hS.2.2⟩
theorem w_newa {H : Heap} {locs : List Loc} {la : Array Slot} {rest : List Value} {a : Nat} {n : Int32} (X : Cx p R s m args meth c g mid) (h1 : HS g h s H) (h2 : va_S (A0 g) s.heap H locs) (ha : a = 0 ∨ a = 1) (hn : ¬ n < 0) (hN : n.toNatClampNeg ≤ 1000) (hcells : cells + 1 ≤ R.cells) (hslots : slots + n.toNatClampNeg ≤ R.slots) (hdg : decode (bO mid) pc = .ok (.newarray (if a = 0 then .int else .boolean), 2))
    (kk : ∀ (H1 : Heap) (locs1 : List Loc), HS g (h ++ [.inr (.inl (a, n.toNatClampNeg, fun _ => 0))]) s H1 → va_S (A0 g) s.heap H1 locs1 → W p l e R s m args below meth c H1 locs1 (cells + 1) (slots + n.toNatClampNeg) Q (F0 m (pc + 2) la (.ref (g.2.2.2.2.2 + (h.length - 1)) :: rest))) :
    W p l e R s m args below meth c H locs cells slots Q (F0 m pc la (.int n :: rest)) := by
  obtain ⟨hsz, hP, L, xs, h3, h4⟩ := id h1
  have hl : 0 < h.length := (List.getElem?_eq_some_iff.mp h3).1
  have hbb := X.2.2.2.2.2.2.2.2.2.2
  have hts := X.2.2.2.2.1
  rcases ha with rfl | rfl
  · have hdg : decode (bO mid) pc = .ok (.newarray .int, 2) := hdg
    refine va_newaK (s := s) (atype := .int) X.1 X.2.1 (hts _ tx_w_ai) rfl hdg rfl hn rfl (Nat.le_trans (Nat.mul_le_mul_right 4 hN) (by decide)) hcells hslots (h := g.2.2.2.2.2 + (h.length - 1)) (by omega) fun H1 cA e1 z1 o1 hAr hNm => ?_
    have hcA : cA = g.2.1 := Option.some.inj (hNm.symm.trans (tysO_i X).2)
    subst hcA
    exact kk H1 _ (h1.push hbb (by omega) e1 (fun q hq => o1 q (by omega))) (S.grow h2 (by omega) (fun q hq => o1 q (by omega)))
  · have hdg : decode (bO mid) pc = .ok (.newarray .boolean, 2) := hdg
    refine va_newaK (s := s) (atype := .boolean) X.1 X.2.1 (hts _ tx_w_ab) rfl hdg rfl hn rfl (Nat.le_trans (Nat.mul_le_mul_right 1 hN) (by decide)) hcells hslots (h := g.2.2.2.2.2 + (h.length - 1)) (by omega) fun H1 cA e1 z1 o1 hAr hNm => ?_
    have hcA : cA = g.2.2.1 := Option.some.inj (hNm.symm.trans (tysO_b X).2)
    subst hcA
    exact kk H1 _ (h1.push hbb (by omega) e1 (fun q hq => o1 q (by omega))) (S.grow h2 (by omega) (fun q hq => o1 q (by omega)))
theorem w_newq {H : Heap} {locs : List Loc} {la : Array Slot} {rest : List Value} {index : Nat} {n : Int32} (X : Cx p R s m args meth c g mid) (h1 : HS g h s H) (h2 : va_S (A0 g) s.heap H locs) (hlk : Cond.classLink (tx_R (oO mid)) index RX0 ∈ tx_B) (hn : ¬ n < 0) (hN : n.toNatClampNeg ≤ 1000) (hcells : cells + 1 ≤ R.cells) (hslots : slots + n.toNatClampNeg ≤ R.slots) (hdg : decode (bO mid) pc = .ok (.anewarray index, 3))
    (kk : ∀ (H1 : Heap) (locs1 : List Loc), HS g (h ++ [.inr (.inr (n.toNatClampNeg, fun _ => none))]) s H1 → va_S (A0 g) s.heap H1 locs1 → W p l e R s m args below meth c H1 locs1 (cells + 1) (slots + n.toNatClampNeg) Q (F0 m (pc + 3) la (.ref (g.2.2.2.2.2 + (h.length - 1)) :: rest))) :
    W p l e R s m args below meth c H locs cells slots Q (F0 m pc la (.int n :: rest)) := by
  obtain ⟨hsz, hP, L, xs, h3, h4⟩ := id h1
  have hl : 0 < h.length := (List.getElem?_eq_some_iff.mp h3).1
  have hbb := X.2.2.2.2.2.2.2.2.2.2
  have hts := X.2.2.2.2.1
  refine W.anew X.1 X.2.1 X.2.2.2.1 (hts _ hlk) (va_AO.use X.2.2.2.2.2.1.2.1) rfl hdg rfl hn (Nat.le_trans (Nat.mul_le_mul_right 4 hN) (by decide)) hcells hslots fun cA kA comp f1 f2 f3 f4 => ?_
  obtain ⟨kA', comp', k1, k2, k3, k4⟩ := (tysO_r X).2
  have hcA : cA = g.2.2.2.1 := Option.some.inj (f1.symm.trans k4)
  subst hcA
  generalize hH1 : H.push ({ cls := g.2.2.2.1, slots := Array.replicate n.toNatClampNeg .null, vm := .none } : Cell) = H1
  have z1 : H1.size = H.size + 1 := by rw [← hH1, Array.size_push]
  have hsz' : H.size = g.2.2.2.2.2 + (h.length - 1) := by omega
  have e1 : H1[H.size]? = some (arrV g.2.2.2.1 n.toNatClampNeg (fun _ => .null)) := by rw [← hH1, Array.getElem?_push_size, ← arrV_new]
  have o1 : ∀ q : Nat, q < H.size → H1[q]? = H[q]? := fun q hq => by rw [← hH1, Array.getElem?_push, if_neg (Nat.ne_of_lt hq)]
  rw [hsz'] at e1 ⊢
  exact kk H1 _ (h1.push hbb z1 e1 o1) (S.grow h2 z1 o1)
theorem dfl_get {ci j : Nat} (hj : j < tx_N ci) (b base : Nat) : defaultValue (tx_ty ci j) = vp_V ((dfl ci).map (tr b base)) j := by
  have e1 : ((dfl ci).map (tr b base))[j]? = some (tr b base (defaultValue (tx_ty ci j))) := by
    unfold dfl
    rw [List.getElem?_map, List.getElem?_map, List.getElem?_range hj]
    rfl
  unfold vp_V
  rw [List.getD_eq_getElem?_getD, e1]
  cases tx_ty ci j <;> rfl
theorem w_new {H : Heap} {locs : List Loc} {la : Array Slot} {rest : List Value} {index ci : Nat} (X : Cx p R s m args meth c g mid) (h1 : HS g h s H) (h2 : va_S (A0 g) s.heap H locs) (hci : ci < 8) (hlk : Cond.classLink (tx_R (oO mid)) index (tx_R ci) ∈ tx_B) (hcells : cells + 1 ≤ R.cells) (hslots : slots + tx_N ci ≤ R.slots) (hdg : decode (bO mid) pc = .ok (.new index, 3))
    (kk : ∀ (H1 : Heap) (locs1 : List Loc), HS g (h ++ [.inl (ci, dfl ci)]) s H1 → va_S (A0 g) s.heap H1 locs1 → W p l e R s m args below meth c H1 locs1 (cells + 1) (slots + tx_N ci) Q (F0 m (pc + 3) la (.ref (g.2.2.2.2.2 + (h.length - 1)) :: rest))) :
    W p l e R s m args below meth c H locs cells slots Q (F0 m pc la rest) := by
  obtain ⟨hsz, hP, L, xs, h3, h4⟩ := id h1
  have hl : 0 < h.length := (List.getElem?_eq_some_iff.mp h3).1
  have hbb := X.2.2.2.2.2.2.2.2.2.2
  have hts := X.2.2.2.2.1
  have hc : vwCl[ci]? = some (tx_R ci, tx_T ci, tx_N ci) := tx_cl ci hci
  have hKn := X.2.2.2.2.2.1.1.1 ci _ hc
  refine W.newcK X.1 X.2.1 X.2.2.2.1 (hts _ hlk) (hts _ (tx_inst ci hci).1) (hts _ (tx_inst ci hci).2) rfl hdg hcells hslots hKn.2.1 (h := g.2.2.2.2.2 + (h.length - 1)) (by omega) fun H1 kC hkC e1 z1 o1 => ?_
  refine kk H1 _ (h1.push hbb (by omega) ⟨_, hc, ?_⟩ (fun q hq => o1 q (by omega))) (S.grow h2 (by omega) (fun q hq => o1 q (by omega)))
  exact (u_born (tx_ty ci) hts (tx_in ci hci) hKn hkC e1 (tx_tyok ci hci)).to (fun j hj => dfl_get hj _ _)
end SND2
