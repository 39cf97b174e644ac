section PR7
variable {L : Nat} {u v : Bool} {I F F' F'' : Nat → Nat → Int32} {J : Nat → Int64} {h : List Cel} {T : Nat → Nat} {n : Nat} {X Y Z : Nat → Int32} {s : (Nat → Nat) × (Nat → Nat → Nat)}
theorem ch_S {e : Nat} {s' : (Nat → Nat) × (Nat → Nat → Nat)} : spQ T n (.inr e) = pj (pS T n e fun e1 => (s', e1)) ∧ ∀ x, pS T n e (fun e1 => (s', e1)) = .inr x → x.1 = s' := by
  unfold pS
  by_cases g : spO T n e = true
  · rw [spQ_t g, if_pos g]
    exact ⟨rfl, fun x hx => by cases hx; rfl⟩
  · rw [spQ_f g, if_neg g]
    exact ⟨rfl, fun x hx => by cases hx⟩
theorem ch_N {e lo hi : Nat} {f : Nat → Nat → Nat ⊕ (((Nat → Nat) × (Nat → Nat → Nat)) × Nat)} {P : Nat → (Nat → Nat) × (Nat → Nat → Nat)} {Q : Nat ⊕ Nat → Nat ⊕ Nat} (hQ : ∀ x, Q (.inl x) = .inl x)
  (h : nmO T n e lo hi = true → Q (.inr (nxe T n e)) = pj (f (nvl T n e) (nxe T n e)) ∧ ∀ x, f (nvl T n e) (nxe T n e) = .inr x → x.1 = P (nvl T n e)) : Q (nuQ T n lo hi (.inr e)) = pj (pN T n e lo hi f) ∧ ∀ x, pN T n e lo hi f = .inr x → x.1 = P (nuV T n lo hi (.inr e)) := by
  unfold pN
  by_cases g : nmO T n e lo hi = true
  · rw [nuQ_t g, nuV_t g, if_pos g]
    exact h g
  · rw [nuQ_f g, hQ, if_neg g]
    exact ⟨rfl, fun x hx => by cases hx⟩
theorem FrR_D {a b : Int32} {c : Int32} {k : Nat} : FrR F (va_up (va_up (va_up F 59 (upd (F 59) (14 + k) a)) 60 (upd (F 60) (14 + k) b)) 58 (upd (F 58) 4 c)) := by
  have h1 : FrR F (va_up F 59 (upd (F 59) (14 + k) a)) := FrR_w (by decide) (by show 14 ≤ 14 + k; omega)
  have h2 := FrR_w (F := va_up F 59 (upd (F 59) (14 + k) a)) (a := 60) (k := 14 + k) (x := b) (by decide) (by show 14 ≤ 14 + k; omega)
  have h3 := FrR_w (F := va_up (va_up F 59 (upd (F 59) (14 + k) a)) 60 (upd (F 60) (14 + k) b)) (a := 58) (k := 4) (x := c) (by decide) (by show 4 ≤ 4; omega)
  rw [up_n (by decide)] at h2
  rw [up_n (by decide), up_n (by decide)] at h3
  exact FrR_tr h1 (FrR_tr h2 h3)
theorem FrR_W {a b c d : Int32} {k : Nat} : FrR F (va_up (va_up (va_up (va_up F 61 (upd (F 61) (6 + k) a)) 62 (upd (F 62) (6 + k) b)) 63 (upd (F 63) (6 + k) c)) 58 (upd (F 58) 5 d)) := by
  have h1 : FrR F (va_up F 61 (upd (F 61) (6 + k) a)) := FrR_w (by decide) (by show 6 ≤ 6 + k; omega)
  have h2 := FrR_w (F := va_up F 61 (upd (F 61) (6 + k) a)) (a := 62) (k := 6 + k) (x := b) (by decide) (by show 6 ≤ 6 + k; omega)
  have h3 := FrR_w (F := va_up (va_up F 61 (upd (F 61) (6 + k) a)) 62 (upd (F 62) (6 + k) b)) (a := 63) (k := 6 + k) (x := c) (by decide) (by show 6 ≤ 6 + k; omega)
  have h4 := FrR_w (F := va_up (va_up (va_up F 61 (upd (F 61) (6 + k) a)) 62 (upd (F 62) (6 + k) b)) 63 (upd (F 63) (6 + k) c)) (a := 58) (k := 5) (x := d) (by decide) (by show 4 ≤ 5; omega)
  rw [up_n (by decide)] at h2
  rw [up_n (by decide), up_n (by decide)] at h3
  rw [up_n (by decide), up_n (by decide), up_n (by decide)] at h4
  exact FrR_tr h1 (FrR_tr h2 (FrR_tr h3 h4))
theorem FrR_C {a c : Int32} {k : Nat} : FrR F (va_up (va_up F 64 (upd (F 64) (4 + k) a)) 58 (upd (F 58) 7 c)) := by
  have h1 : FrR F (va_up F 64 (upd (F 64) (4 + k) a)) := FrR_w (by decide) (by show 4 ≤ 4 + k; omega)
  have h3 := FrR_w (F := va_up F 64 (upd (F 64) (4 + k) a)) (a := 58) (k := 7) (x := c) (by decide) (by show 4 ≤ 7; omega)
  rw [up_n (by decide)] at h3
  exact FrR_tr h1 h3
theorem FrR_F {c : Int32} : FrR F (va_up F 58 (upd (F 58) 6 c)) := FrR_w (by decide) (by show 4 ≤ 6; omega)
theorem y_item (h150 : n ≤ 150) (hT : ∀ j, j < n → F 57 j = nI (T j) ∧ T j < 256) {e i : Nat} {l2 : Value} (hX : St T n X (.inr e)) (hp : blk T n e < n) (hR : RDr X F s) (hG : Gd s) : ∃ Y F' l', EX 116 25 [.ref 56, .int (nI i), l2] [] (mk L u v (va_up I 56 X) F J) = EX 116 25 [.ref 56, .int (nI (i + 1)), l'] [] (mk L u v (va_up I 56 Y) F' J) ∧ St T n Y (pj (itm T n e s)) ∧ (∀ x, itm T n e s = .inr x → RDr Y F' x.1) ∧ FrY X Y ∧ FrR F F' := by
  by_cases hr : roO s.1 (T (blk T n e)) = true
  · unfold itm
    rw [if_pos hr]
    by_cases g1 : T (blk T n e) = 100
    · have r1 : s.1 0 < 14 := by rw [g1] at hr; exact of_decide_eq_true hr
      rw [if_pos g1]
      have c := ch_N (T := T) (n := n) (e := blk T n e + 1) (lo := 0) (hi := 24) (f := fun x e1 => pN T n e1 0 9 fun y e2 => pS T n e2 fun e3 => (adD s x y, e3)) (P := fun x => adD s x (nuV T n 0 9 (nuQ T n 0 24 (.inr (blk T n e + 1))))) (Q := fun q => spQ T n (nuQ T n 0 9 q)) (fun _ => rfl) (fun g => by
        have d := ch_N (T := T) (n := n) (e := nxe T n (blk T n e + 1)) (lo := 0) (hi := 9) (f := fun y e2 => pS T n e2 fun e3 => (adD s (nvl T n (blk T n e + 1)) y, e3)) (P := fun y => adD s (nvl T n (blk T n e + 1)) y) (Q := fun q => spQ T n q) (fun _ => rfl) (fun g2 => ch_S)
        rw [nuQ_t g]
        exact d)
      obtain ⟨Y, l', y1, y2, y3, y4⟩ := y_rou (L := L) (u := u) (v := v) (I := I) (J := J) (i := i) (l2 := l2) h150 hT hX hp hR hG hr (fun Y hY hRY => by
        obtain ⟨Z, z1, z2, z3⟩ := y_rdD (L := L) (u := u) (v := v) (I := I) (J := J) h150 hT hY hRY r1
        rw [g1, if_neg (by decide)]
        exact ⟨Z, z1, z2, FrY_X z3, z3 10 (by omega)⟩) FrR_D
      rw [if_neg (by omega)] at y4
      exact ⟨Y, _, l', y1, c.1 ▸ y2, fun x hx => by rw [c.2 x hx]; exact RDr_D hR y4, y3, FrR_D⟩
    · by_cases g2 : T (blk T n e) = 119
      · have r1 : s.1 1 < 6 := by rw [g2] at hr; exact of_decide_eq_true hr
        rw [if_neg g1, if_pos g2]
        have c := ch_N (T := T) (n := n) (e := blk T n e + 1) (lo := 0) (hi := 13) (f := fun x e1 => pN T n e1 1 30 fun y e2 => pN T n e2 0 99 fun z e3 => pS T n e3 fun e4 => (adW s x y z, e4)) (P := fun x => adW s x (nuV T n 1 30 (nuQ T n 0 13 (.inr (blk T n e + 1)))) (nuV T n 0 99 (nuQ T n 1 30 (nuQ T n 0 13 (.inr (blk T n e + 1)))))) (Q := fun q => spQ T n (nuQ T n 0 99 (nuQ T n 1 30 q))) (fun _ => rfl) (fun g => by
          have d := ch_N (T := T) (n := n) (e := nxe T n (blk T n e + 1)) (lo := 1) (hi := 30) (f := fun y e2 => pN T n e2 0 99 fun z e3 => pS T n e3 fun e4 => (adW s (nvl T n (blk T n e + 1)) y z, e4)) (P := fun y => adW s (nvl T n (blk T n e + 1)) y (nuV T n 0 99 (nuQ T n 1 30 (.inr (nxe T n (blk T n e + 1)))))) (Q := fun q => spQ T n (nuQ T n 0 99 q)) (fun _ => rfl) (fun g2 => by
            have d := ch_N (T := T) (n := n) (e := nxe T n (nxe T n (blk T n e + 1))) (lo := 0) (hi := 99) (f := fun z e3 => pS T n e3 fun e4 => (adW s (nvl T n (blk T n e + 1)) (nvl T n (nxe T n (blk T n e + 1))) z, e4)) (P := fun z => adW s (nvl T n (blk T n e + 1)) (nvl T n (nxe T n (blk T n e + 1))) z) (Q := fun q => spQ T n q) (fun _ => rfl) (fun g3 => ch_S)
            rw [nuQ_t g2]
            exact d)
          rw [nuQ_t g]
          exact d)
        obtain ⟨Y, l', y1, y2, y3, y4⟩ := y_rou (L := L) (u := u) (v := v) (I := I) (J := J) (i := i) (l2 := l2) h150 hT hX hp hR hG hr (fun Y hY hRY => by
          obtain ⟨Z, z1, z2, z3⟩ := y_rdW (L := L) (u := u) (v := v) (I := I) (J := J) h150 hT hY hRY r1
          rw [g2, if_neg (by decide)]
          exact ⟨Z, z1, z2, FrY_X z3, z3 10 (by omega)⟩) FrR_W
        rw [if_neg (by omega)] at y4
        exact ⟨Y, _, l', y1, c.1 ▸ y2, fun x hx => by rw [c.2 x hx]; exact RDr_W hR y4, y3, FrR_W⟩
      · by_cases g3 : T (blk T n e) = 99
        · have r1 : s.1 2 < 4 := by rw [g3] at hr; exact of_decide_eq_true hr
          rw [if_neg g1, if_neg g2, if_pos g3]
          have c := ch_N (T := T) (n := n) (e := blk T n e + 1) (lo := 1) (hi := 99) (f := fun x e1 => pS T n e1 fun e2 => (adC s x, e2)) (P := fun x => adC s x) (Q := fun q => spQ T n q) (fun _ => rfl) (fun g => ch_S)
          obtain ⟨Y, l', y1, y2, y3, y4⟩ := y_rou (L := L) (u := u) (v := v) (I := I) (J := J) (i := i) (l2 := l2) h150 hT hX hp hR hG hr (fun Y hY hRY => by
            obtain ⟨Z, z1, z2, z3⟩ := y_rdC (L := L) (u := u) (v := v) (I := I) (J := J) h150 hT hY hRY r1
            rw [g3, if_neg (by decide)]
            exact ⟨Z, z1, z2, FrY_X z3, z3 10 (by omega)⟩) FrR_C
          rw [if_neg (by omega)] at y4
          exact ⟨Y, _, l', y1, c.1 ▸ y2, fun x hx => by rw [c.2 x hx]; exact RDr_C hR y4, y3, FrR_C⟩
        · have g4 : T (blk T n e) = 102 := by
            have := (tk_1 hr hp).2.1
            omega
          rw [if_neg g1, if_neg g2, if_neg g3]
          have c := ch_N (T := T) (n := n) (e := blk T n e + 1) (lo := 1) (hi := 5) (f := fun x e1 => pS T n e1 fun e2 => (adF s x, e2)) (P := fun x => adF s x) (Q := fun q => spQ T n q) (fun _ => rfl) (fun g => ch_S)
          obtain ⟨Y, l', y1, y2, y3, y4⟩ := y_rou (L := L) (u := u) (v := v) (I := I) (J := J) (i := i) (l2 := l2) h150 hT hX hp hR hG hr (fun Y hY hRY => by
            obtain ⟨Z, z1, z2, z3⟩ := y_rdF (L := L) (u := u) (v := v) (I := I) (F := F) (J := J) h150 hT hY
            rw [g4, if_pos rfl]
            exact ⟨_, z1, St_10 z2, FrY_tr (FrY_X z3) FrY_10, ud_s⟩) FrR_F
          rw [if_pos g4] at y4
          refine ⟨Y, _, l', y1, c.1 ▸ y2, fun x hx => ?_, y3, FrR_F⟩
          rw [c.2 x hx]
          have e : Y = upd Y 10 1 := by rw [← y4, upd_id]
          rw [e]
          exact RDr_F hR
  · obtain ⟨Y, l', y1, y2, y3⟩ := y_rou0 (L := L) (u := u) (v := v) (I := I) (J := J) (i := i) (l2 := l2) h150 hT hX hp hR hG hr
    unfold itm
    rw [if_neg hr]
    exact ⟨Y, F, l', y1, y2, fun x hx => (by cases hx), y3, FrR_id⟩
end PR7
