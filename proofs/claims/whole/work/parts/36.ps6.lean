/-- what is told by an empty text -/
def s00 : (Nat → Nat) × (Nat → Nat → Nat) := (fun j => if j = 3 then 3 else 0, fun _ _ => 0)
theorem Gd_00 : Gd s00 := ⟨by decide, fun j hj => absurd hj (Nat.not_lt_zero j), fun j hj => absurd hj (Nat.not_lt_zero j), fun j hj => absurd hj (Nat.not_lt_zero j)⟩
/-- one item, from the loop's head to the loop's head -/
def ItC (L : Nat) (u v : Bool) (J : Nat → Int64) (i : Nat) (e t : Nat) (l5 : Value) (I F : Nat → Nat → Int32) (r : Nat ⊕ (((Nat → Nat) × (Nat → Nat → Nat)) × Nat)) : Prop :=
  (∀ f, r = .inl f → ∃ I' F', EX 11 21 [.ref 2, .ref (Tk v), .int (nI i), .int (nI e), .int (nI t), l5] [] (mk L u v I F J) = some (mk L u v I' F' J, some (.int (-10 - nI f))) ∧ FrC v I F I' F') ∧
  (∀ x, r = .inr x → ∃ I' F' t' l', EX 11 21 [.ref 2, .ref (Tk v), .int (nI i), .int (nI e), .int (nI t), l5] [] (mk L u v I F J) = EX 11 21 [.ref 2, .ref (Tk v), .int (nI (i + 1)), .int (nI x.2), .int (nI t'), l'] [] (mk L u v I' F' J) ∧ CDr v I' F' x.1 ∧ I' 2 3 = 0 ∧ FrC v I F I' F' ∧ t' ≤ x.2)
section PS6
variable {L : Nat} {u v : Bool} {I F I' F' I'' F'' : Nat → Nat → Int32} {J : Nat → Int64} {h : List Cel} {T : Nat → Nat} {n : Nat} {s : (Nat → Nat) × (Nat → Nat → Nat)}
theorem ItC_go {i e t e' t' : Nat} {l l' : Value} {r : Nat ⊕ (((Nat → Nat) × (Nat → Nat → Nat)) × Nat)} (h : EX 11 21 [.ref 2, .ref (Tk v), .int (nI i), .int (nI e), .int (nI t), l] [] (mk L u v I F J) = EX 11 21 [.ref 2, .ref (Tk v), .int (nI i), .int (nI e'), .int (nI t'), l'] [] (mk L u v I' F' J)) (hf : FrC v I F I' F') (hr : ItC L u v J i e' t' l' I' F' r) : ItC L u v J i e t l I F r := by
  refine ⟨fun f hf2 => ?_, fun x hx => ?_⟩
  · obtain ⟨I2, F2, a, b⟩ := hr.1 f hf2
    exact ⟨I2, F2, h.trans a, FrC_tr hf b⟩
  · obtain ⟨I2, F2, t2, l2, a, b, c, d, e⟩ := hr.2 x hx
    exact ⟨I2, F2, t2, l2, h.trans a, b, c, FrC_tr hf d, e⟩
theorem ItC_no {i e t f : Nat} {l : Value} (h : EX 11 21 [.ref 2, .ref (Tk v), .int (nI i), .int (nI e), .int (nI t), l] [] (mk L u v I F J) = some (mk L u v I F J, some (.int (-10 - nI f)))) : ItC L u v J i e t l I F (.inl f) :=
  ⟨fun f hf2 => by cases hf2; exact ⟨I, F, h, FrC_id⟩, fun x hx => by cases hx⟩
theorem it_N (hn : I 2 0 = nI n) (h150 : n ≤ 150) (hT : ∀ j, j < n → F 3 j = nI (T j) ∧ T j < 256) {e t i lo hi : Nat} (k : Nat) {l5 : Value} (he : e ≤ n) (ht : t ≤ e) (h3 : I 2 3 ≠ 0) (hk : I 2 4 = nI k) (hk3 : k < 3) (hr : nI k < nrO (I 2 3)) (hlo : lsN (I 2 3) (nI k) = nI lo) (hhi : msN (I 2 3) (nI k) = nI hi) (hh : hi < 1000) (hl : lo < 1000) {f : Nat → Nat → Nat ⊕ (((Nat → Nat) × (Nat → Nat → Nat)) × Nat)} (hf : nmO T n e lo hi = true → nxe T n e ≤ n → ∀ t' l', t' ≤ nxe T n e → ItC L u v J i (nxe T n e) t' l' (va_up I 2 (upd (I 2) 4 (nI (k + 1)))) (va_up F 4 (upd (F 4) k (nI (nvl T n e)))) (f (nvl T n e) (nxe T n e))) : ItC L u v J i e t l5 I F (pN T n e lo hi f) := by
  have a := x_due (L := L) (u := u) (v := v) (J := J) (i := i) (l5 := l5) hn h150 hT he ht h3 hk hk3 hr hlo hhi hh hl
  unfold pN
  by_cases g : nmO T n e lo hi = true
  · rw [if_pos g]
    have b := nxe_le he (nm_le g).1
    exact ItC_go (a.1 g) (FrC_tr (FrC_2 (ud_n (by decide))) FrC_4) (hf g b.2 _ _ (by omega))
  · rw [if_neg g]
    exact ItC_no (a.2 g)
theorem it_S (hn : I 2 0 = nI n) (h150 : n ≤ 150) (hT : ∀ j, j < n → F 3 j = nI (T j) ∧ T j < 256) {e t i : Nat} {l5 : Value} {s' : (Nat → Nat) × (Nat → Nat → Nat)} (he : e ≤ n) (ht : t ≤ e) (h3 : I 2 3 ≠ 0) (hk : I 2 4 = nrO (I 2 3))
  (hcl : ∃ I' F', EX 18 0 [.ref 2, .ref (Tk v)] [] (mk L u v I F J) = some (mk L u v I' F' J, some (.int 1)) ∧ CDr v I' F' s' ∧ I' 2 3 = 0 ∧ FrC v I F I' F') : ItC L u v J i e t l5 I F (pS T n e fun e1 => (s', e1)) := by
  have a := x_dueS (L := L) (u := u) (v := v) (J := J) (i := i) (l5 := l5) hn h150 hT he ht h3 hk hcl
  unfold pS
  by_cases g : spO T n e = true
  · rw [if_pos g]
    obtain ⟨I2, F2, a1, a2, a3, a4⟩ := a.1 g
    refine ⟨fun f hf2 => (by cases hf2), fun x hx => ?_⟩
    cases hx
    have b := nxe_le he (sp_lt g)
    exact ⟨I2, F2, _, _, a1, a2, a3, a4, by show t + 1 ≤ nxe T n e; omega⟩
  · rw [if_neg g]
    exact ItC_no (a.2 g)
theorem it_O (hn : I 2 0 = nI n) (h150 : n ≤ 150) (hT : ∀ j, j < n → F 3 j = nI (T j) ∧ T j < 256) (hC : CDr v I F s) (hG : Gd s) {e t i : Nat} {l5 : Value} (he : e ≤ n) (ht : t ≤ e) (hp : blk T n e < n) (h3 : I 2 3 = 0) {r : Nat ⊕ (((Nat → Nat) × (Nat → Nat → Nat)) × Nat)} (hc : roO s.1 (T (blk T n e)) = true → ∀ t' l', t' ≤ blk T n e + 1 → ItC L u v J i (blk T n e + 1) t' l' (va_up I 2 (upd (upd (I 2) 3 (nI (T (blk T n e)))) 4 0)) F r) : ItC L u v J i e t l5 I F (if roO s.1 (T (blk T n e)) = true then r else .inl (blk T n e)) := by
  have b := blk_le (T := T) he
  by_cases hd : isDg (T (blk T n e)) = true
  · have d1 : 48 ≤ T (blk T n e) ∧ T (blk T n e) ≤ 57 := of_decide_eq_true hd
    have g : ¬ roO s.1 (T (blk T n e)) = true := by
      unfold roO
      rw [if_neg (by omega), if_neg (by omega), if_neg (by omega), if_neg (by omega)]
      decide
    rw [if_neg g]
    exact ItC_no (x_stF hn h150 hT he hp (by omega) (x_tokD hn h150 hT hp hd (x_tnumN (Or.inl h3)) (fun x hx => by cases hx; exact Or.inl rfl) (fun z => by cases z)))
  · by_cases hs : T (blk T n e) = 59
    · have g : ¬ roO s.1 (T (blk T n e)) = true := by
        rw [hs]
        unfold roO
        rw [if_neg (by decide), if_neg (by decide), if_neg (by decide), if_neg (by decide)]
        decide
      rw [if_neg g]
      exact ItC_no (x_stF hn h150 hT he hp (by omega) (x_tokS hn h150 hT hp hs (by decide) (x_clN (Or.inl h3))))
    · have a := x_tokO (L := L) (u := u) (J := J) (q := nI (nxe T n e)) hn h150 hT hC hG hp (Bool.eq_false_iff.mpr hd) hs h3
      by_cases g : roO s.1 (T (blk T n e)) = true
      · rw [if_pos g] at a ⊢
        have a3 := x_stT (i := i) (t := t) (l5 := l5) hn h150 hT he hp (by omega) a (FrC_2 (by rw [ud_n (by decide), ud_n (by decide)]))
        rw [if_neg hs, show nxe T n e = blk T n e + 1 from if_neg hd] at a3
        exact ItC_go a3 (FrC_2 (by rw [ud_n (by decide), ud_n (by decide)])) (hc g _ _ (by omega))
      · rw [if_neg g] at a ⊢
        exact ItC_no (x_stF hn h150 hT he hp (by omega) a)
theorem CDr_fr (h1 : I' (Tk v) = I (Tk v)) (h2 : ∀ j, 1 ≤ j ∧ j ≤ 6 → F' (Tk v + j) = F (Tk v + j)) (hC : CDr v I F s) : CDr v I' F' s := by
  unfold CDr
  rw [h1, h2 1 (by decide), h2 2 (by decide), h2 3 (by decide), h2 4 (by decide), h2 5 (by decide), h2 6 (by decide)]
  exact hC
theorem hT4 {f : Nat → Int32} (hT : ∀ j, j < n → F 3 j = nI (T j) ∧ T j < 256) : ∀ j, j < n → va_up F 4 f 3 j = nI (T j) ∧ T j < 256 := by
  rw [up_n (by decide)]
  exact hT
theorem x_item (hn : I 2 0 = nI n) (h150 : n ≤ 150) (hT : ∀ j, j < n → F 3 j = nI (T j) ∧ T j < 256) (hC : CDr v I F s) (hG : Gd s) {e t i : Nat} {l5 : Value} (he : e ≤ n) (ht : t ≤ e) (hp : blk T n e < n) (h3 : I 2 3 = 0) : ItC L u v J i e t l5 I F (itm T n e s) := by
  refine it_O hn h150 hT hC hG he ht hp h3 fun hr t1 l1 ht1 => ?_
  have b := blk_le (T := T) he
  by_cases g1 : T (blk T n e) = 100
  · have r1 : s.1 0 < 14 := by rw [g1] at hr; exact of_decide_eq_true hr
    rw [if_pos g1, g1, show nI 100 = 100 from rfl]
    refine it_N (by simp (config := { decide := true }) only [up_s, ud_n, ne_eq, not_false_eq_true, hn]) h150 hT 0 (by omega) ht1 ?_ ?_ (by decide) ?_ ?_ ?_ (by decide) (by decide) fun k1 k2 t2 l2 ht2 => ?_
    iterate 5 (simp (config := { decide := true }) only [up_s, ud_n, ud_s, ne_eq, not_false_eq_true, nrO, lsN, msN])
    refine it_N (by simp (config := { decide := true }) only [up_s, ud_n, ne_eq, not_false_eq_true, hn]) h150 (hT4 hT) 1 k2 ht2 ?_ ?_ (by decide) ?_ ?_ ?_ (by decide) (by decide) fun k3 k4 t3 l3 ht3 => ?_
    iterate 5 (simp (config := { decide := true }) only [up_s, ud_n, ud_s, ne_eq, not_false_eq_true, nrO, lsN, msN])
    refine it_S (by simp (config := { decide := true }) only [up_s, ud_n, ne_eq, not_false_eq_true, hn]) h150 (hT4 (hT4 hT)) k4 ht3 ?_ ?_ ?_
    iterate 2 (simp (config := { decide := true }) only [up_s, ud_n, ud_s, ne_eq, not_false_eq_true, nrO])
    refine x_clD (CDr_fr ?_ (fun j hj => ?_) hC) r1 ?_ ?_ ?_ ?_
    · rw [up_n Tk_n2, up_n Tk_n2, up_n Tk_n2]
    · rw [up_n (Tk_ne4 (by omega)), up_n (Tk_ne4 (by omega))]
    iterate 4 (simp (config := { decide := true }) only [up_s, ud_n, ud_s, ne_eq, not_false_eq_true])
  · by_cases g2 : T (blk T n e) = 119
    · have r1 : s.1 1 < 6 := by rw [g2] at hr; exact of_decide_eq_true hr
      rw [if_neg g1, if_pos g2, g2, show nI 119 = 119 from rfl]
      refine it_N (by simp (config := { decide := true }) only [up_s, ud_n, ne_eq, not_false_eq_true, hn]) h150 hT 0 (by omega) ht1 ?_ ?_ (by decide) ?_ ?_ ?_ (by decide) (by decide) fun k1 k2 t2 l2 ht2 => ?_
      iterate 5 (simp (config := { decide := true }) only [up_s, ud_n, ud_s, ne_eq, not_false_eq_true, nrO, lsN, msN])
      refine it_N (by simp (config := { decide := true }) only [up_s, ud_n, ne_eq, not_false_eq_true, hn]) h150 (hT4 hT) 1 k2 ht2 ?_ ?_ (by decide) ?_ ?_ ?_ (by decide) (by decide) fun k3 k4 t3 l3 ht3 => ?_
      iterate 5 (simp (config := { decide := true }) only [up_s, ud_n, ud_s, ne_eq, not_false_eq_true, nrO, lsN, msN])
      refine it_N (by simp (config := { decide := true }) only [up_s, ud_n, ne_eq, not_false_eq_true, hn]) h150 (hT4 (hT4 hT)) 2 k4 ht3 ?_ ?_ (by decide) ?_ ?_ ?_ (by decide) (by decide) fun k5 k6 t4 l4 ht4 => ?_
      iterate 5 (simp (config := { decide := true }) only [up_s, ud_n, ud_s, ne_eq, not_false_eq_true, nrO, lsN, msN])
      refine it_S (by simp (config := { decide := true }) only [up_s, ud_n, ne_eq, not_false_eq_true, hn]) h150 (hT4 (hT4 (hT4 hT))) k6 ht4 ?_ ?_ ?_
      iterate 2 (simp (config := { decide := true }) only [up_s, ud_n, ud_s, ne_eq, not_false_eq_true, nrO])
      refine x_clW (CDr_fr ?_ (fun j hj => ?_) hC) r1 ?_ ?_ ?_ ?_ ?_
      · rw [up_n Tk_n2, up_n Tk_n2, up_n Tk_n2, up_n Tk_n2]
      · rw [up_n (Tk_ne4 (by omega)), up_n (Tk_ne4 (by omega)), up_n (Tk_ne4 (by omega))]
      iterate 5 (simp (config := { decide := true }) only [up_s, ud_n, ud_s, ne_eq, not_false_eq_true])
    · by_cases g3 : T (blk T n e) = 99
      · have r1 : s.1 2 < 4 := by rw [g3] at hr; exact of_decide_eq_true hr
        rw [if_neg g1, if_neg g2, if_pos g3, g3, show nI 99 = 99 from rfl]
        refine it_N (by simp (config := { decide := true }) only [up_s, ud_n, ne_eq, not_false_eq_true, hn]) h150 hT 0 (by omega) ht1 ?_ ?_ (by decide) ?_ ?_ ?_ (by decide) (by decide) fun k1 k2 t2 l2 ht2 => ?_
        iterate 5 (simp (config := { decide := true }) only [up_s, ud_n, ud_s, ne_eq, not_false_eq_true, nrO, lsN, msN])
        refine it_S (by simp (config := { decide := true }) only [up_s, ud_n, ne_eq, not_false_eq_true, hn]) h150 (hT4 hT) k2 ht2 ?_ ?_ ?_
        iterate 2 (simp (config := { decide := true }) only [up_s, ud_n, ud_s, ne_eq, not_false_eq_true, nrO])
        refine x_clC (CDr_fr ?_ (fun j hj => ?_) hC) r1 ?_ ?_ ?_
        · rw [up_n Tk_n2, up_n Tk_n2]
        · rw [up_n (Tk_ne4 (by omega))]
        iterate 3 (simp (config := { decide := true }) only [up_s, ud_n, ud_s, ne_eq, not_false_eq_true])
      · have g4 : T (blk T n e) = 102 := by
          unfold roO at hr
          rw [if_neg g3, if_neg g1] at hr
          by_cases g : T (blk T n e) = 102
          · exact g
          · rw [if_neg g, if_neg g2] at hr
            exact absurd hr (by decide)
        rw [if_neg g1, if_neg g2, if_neg g3, g4, show nI 102 = 102 from rfl]
        refine it_N (by simp (config := { decide := true }) only [up_s, ud_n, ne_eq, not_false_eq_true, hn]) h150 hT 0 (by omega) ht1 ?_ ?_ (by decide) ?_ ?_ ?_ (by decide) (by decide) fun k1 k2 t2 l2 ht2 => ?_
        iterate 5 (simp (config := { decide := true }) only [up_s, ud_n, ud_s, ne_eq, not_false_eq_true, nrO, lsN, msN])
        refine it_S (by simp (config := { decide := true }) only [up_s, ud_n, ne_eq, not_false_eq_true, hn]) h150 (hT4 hT) k2 ht2 ?_ ?_ ?_
        iterate 2 (simp (config := { decide := true }) only [up_s, ud_n, ud_s, ne_eq, not_false_eq_true, nrO])
        refine x_clF (CDr_fr ?_ (fun j hj => ?_) hC) ?_ ?_ ?_
        · rw [up_n Tk_n2, up_n Tk_n2]
        · rw [up_n (Tk_ne4 (by omega))]
        iterate 3 (simp (config := { decide := true }) only [up_s, ud_n, ud_s, ne_eq, not_false_eq_true])
theorem x_runs (h150 : n ≤ 150) : ∀ (k e i t : Nat) (l5 : Value) (I F : Nat → Nat → Int32) (s : (Nat → Nat) × (Nat → Nat → Nat)), n < e + k → I 2 0 = nI n → (∀ j, j < n → F 3 j = nI (T j) ∧ T j < 256) → CDr v I F s → Gd s → e ≤ n → t ≤ e → I 2 3 = 0 →
  (∀ f, prs T n k e i s = .inl f → ∃ I' F', EX 11 21 [.ref 2, .ref (Tk v), .int (nI i), .int (nI e), .int (nI t), l5] [] (mk L u v I F J) = some (mk L u v I' F' J, some (.int (-10 - nI f))) ∧ FrC v I F I' F') ∧
  (∀ x, prs T n k e i s = .inr x → ∃ I' F', EX 11 21 [.ref 2, .ref (Tk v), .int (nI i), .int (nI e), .int (nI t), l5] [] (mk L u v I F J) = some (mk L u v I' F' J, some (.int (nI x.2))) ∧ CDr v I' F' x.1 ∧ FrC v I F I' F') := by
  intro k
  induction k with
  | zero => intro e i t l5 I F s hk hn hT hC hG he; omega
  | succ k ih =>
    intro e i t l5 I F s hk hn hT hC hG he ht h3
    rw [prs]
    by_cases hp : blk T n e < n
    · rw [if_pos hp]
      have a := x_item (L := L) (u := u) (J := J) (i := i) (l5 := l5) hn h150 hT hC hG he ht hp h3
      cases hi : itm T n e s with
      | inl f =>
        rw [hi] at a
        refine ⟨fun f' hf => ?_, fun x hx => ?_⟩
        · cases hf
          exact a.1 f rfl
        · cases hx
      | inr y =>
        rw [hi] at a
        obtain ⟨I2, F2, t2, l2, a1, a2, a3, a4, a5⟩ := a.2 y rfl
        obtain ⟨c1, c2, c3⟩ := itm_ok hG he hp hi
        have f3 : F2 3 = F 3 := a4.2.2 3 (by decide) (by rcases Tk_5 v with e | e <;> omega)
        have c := ih y.2 (i + 1) t2 l2 I2 F2 y.1 (by omega) (a4.2.1.trans hn) (by rw [f3]; exact hT) a2 c1 c3 a5 a3
        refine ⟨fun f' hf => ?_, fun x hx => ?_⟩
        · obtain ⟨I4, F4, d1, d2⟩ := c.1 f' hf
          exact ⟨I4, F4, a1.trans d1, FrC_tr a4 d2⟩
        · obtain ⟨I4, F4, d1, d2, d3⟩ := c.2 x hx
          exact ⟨I4, F4, a1.trans d1, d2, FrC_tr a4 d3⟩
    · rw [if_neg hp]
      have a := x_stE (L := L) (u := u) (v := v) (J := J) (i := i) (t := t) (l5 := l5) hn h150 hT he hp (by omega)
      rw [if_pos h3] at a
      refine ⟨fun f' hf => ?_, fun x hx => ?_⟩
      · cases hf
      · cases hx
        exact ⟨I, F, a, hC, FrC_id⟩
theorem x_read (hn : I 2 0 = nI n) (h150 : n ≤ 150) (hT : ∀ j, j < n → F 3 j = nI (T j) ∧ T j < 256) :
  (∀ f, prs T n (n + 1) 0 0 s00 = .inl f → ∃ I' F', EX 11 0 [.ref 2, .ref (Tk v), .float 0, .float 0, .float 0, .float 0] [] (mk L u v I F J) = some (mk L u v I' F' J, some (.int (-10 - nI f))) ∧ FrC v I F I' F') ∧
  (∀ x, prs T n (n + 1) 0 0 s00 = .inr x → ∃ I' F', EX 11 0 [.ref 2, .ref (Tk v), .float 0, .float 0, .float 0, .float 0] [] (mk L u v I F J) = some (mk L u v I' F' J, some (.int (nI x.2))) ∧ CDr v I' F' x.1 ∧ FrC v I F I' F') := by
  have h0 : ∃ I1, EX 11 0 [.ref 2, .ref (Tk v), .float 0, .float 0, .float 0, .float 0] [] (mk L u v I F J) = EX 11 21 [.ref 2, .ref (Tk v), .int (nI 0), .int (nI 0), .int (nI 0), .float 0] [] (mk L u v I1 F J) ∧ FrC v I F I1 F ∧ I1 2 3 = 0 ∧ I1 (Tk v) = upd (upd (upd (upd (upd (I (Tk v)) 0 0) 1 0) 2 0) 3 3) 4 0 := by
    refine ⟨va_up (va_up I (Tk v) (upd (upd (upd (upd (upd (I (Tk v)) 0 0) 1 0) 2 0) 3 3) 4 0)) 2 (upd (upd (I 2) 3 0) 4 0), ?_, FrC_tr FrC_v (FrC_2 (by rw [ud_n (by decide), ud_n (by decide), up_n Tk_ne2])), ?_, ?_⟩
    · set_option maxRecDepth 100000 in simp (config := { decide := true }) only [q11_0, q11_1, q11_2, q11_3, q11_4, q11_5, q11_8, q11_9, q11_10, q11_13, q11_14, q11_15, q11_18, q11_19, q11_23, q11_26, q11_29, q11_30, q11_31, q11_34, q11_36, q11_38, q11_39, q11_42, q11_45, q11_48, q11_49, q11_51, q11_54, q11_55, q11_56, q11_58, q11_59, q11_60, q11_63, q11_66, q11_68, q11_70, q11_71, q11_72, q11_73, q11_75, q11_78, q11_80, q11_83, q11_86, q11_89, q11_92, q11_93, q11_96, q11_99, q11_100, q11_103, q11_105, q11_106, q11_109, q11_110, gF_1_0, gF_1_1, gF_1_2, gF_1_3, gF_1_4, gF_1_5, gF_1_6, gF_1_7, gF_1_8, gF_1_9, gF_2_0, gF_2_1, gF_2_2, gF_2_3, gF_2_4, gF_19_0, gF_19_1, gF_19_2, gF_19_3, gF_19_4, gF_19_5, gF_19_6, gF_19_7, gF_19_8, gF_19_9, gF_21_0, gF_21_1, gF_21_2, gF_45_0, gF_45_1, gF_45_2, gF_48_0, gF_48_1, gF_48_2, gF_48_3, gF_56_0, gF_56_1, gF_56_2, gF_56_3, gF_56_4, gF_56_5, gF_56_6, gF_56_7, gF_56_8, gF_56_9, gF_56_10, gF_56_11, gF_56_12, gF_56_13, gF_56_14, gF_56_15, gF_56_16, gF_56_17, gF_56_18, gF_56_19, gF_56_20, gF_56_21, gF_56_22, gF_56_23, gF_56_24, gF_56_25, gF_56_26, gF_Tu_0, gF_Tu_1, gF_Tu_2, gF_Tu_3, gF_Tu_4, gF_Tu_5, gF_Tu_6, gF_Tu_7, gF_Tu_8, gF_Tu_9, gF_Tu_10, gF_Tv_0, gF_Tv_1, gF_Tv_2, gF_Tv_3, gF_Tv_4, gF_Tv_5, gF_Tv_6, gF_Tv_7, gF_Tv_8, gF_Tv_9, gF_Tv_10, pF_1_1, pF_1_2, pF_1_9, pF_2_0, pF_2_3, pF_2_4, pF_19_0, pF_19_1, pF_19_2, pF_19_3, pF_19_4, pF_19_5, pF_19_6, pF_19_7, pF_19_8, pF_21_0, pF_21_1, pF_45_0, pF_48_3, pF_56_0, pF_56_1, pF_56_3, pF_56_4, pF_56_5, pF_56_6, pF_56_7, pF_56_8, pF_56_10, pF_56_21, pF_56_24, pF_Tu_0, pF_Tu_1, pF_Tu_2, pF_Tu_3, pF_Tu_4, pF_Tv_0, pF_Tv_1, pF_Tv_2, pF_Tv_3, pF_Tv_4, gA_3, gA_4, gA_20, gZ_44, gA_46, gA_47, gA_49, gA_50, gA_51, gA_57, gA_58, gA_59, gA_60, gA_61, gA_62, gA_63, gA_64, gA_65, gA_66, gZ_67, gA_68, gA_69, gA_70, gA_71, gA_72, gA_Tu1, gA_Tu2, gA_Tu3, gA_Tu4, gA_Tu5, gA_Tu6, gA_Tv1, gA_Tv2, gA_Tv3, gA_Tv4, gA_Tv5, gA_Tv6, gQ_22, gQ_43, gL_0, gA_0, pA_3, pA_4, pA_20, pZ_44, pA_46, pA_47, pA_49, pA_50, pA_51, pA_57, pA_58, pA_59, pA_60, pA_61, pA_62, pA_63, pA_64, pA_65, pA_66, pZ_67, pA_68, pA_69, pA_70, pA_71, pA_72, pA_Tu1, pA_Tu2, pA_Tu3, pA_Tu4, pA_Tu5, pA_Tu6, pA_Tv1, pA_Tv2, pA_Tv3, pA_Tv4, pA_Tv5, pA_Tv6, rc_1, rc_2, rc_19, rc_21, rc_45, rc_48, rc_56, rc_Tu, rc_Tv, ↓reduceIte, m31_0, m31_1, m31_2, m31_3, m31_4, m31_5, m31_6, m31_7, m31_8, m31_9, m31_10, m31_11, m31_12, m31_13,  Tk_19, Tk_21, Tk_2, rbI_19, rbI_T, rbF_20, rbF_T1, rbF_T2, rbF_T4, Nat.add_left_cancel_iff, ne_eq, bd_s, rc_2, rc_19, rc_21, rc_45, rc_48, rc_56, rc_Tu, rc_Tv, vB_0, tc_0, tc_1, tc_2, tc_3, tc_4, tc_5, tc_6, tc_7, tc_8, tc_9, tc_10, tc_11, tc_12, tc_13, tc_14, if_true, if_false, up_s, ud_s, ud_n, up_n, bx_uu, Int32.reduceLT, Int32.reduceAdd, Int32.reduceSub, Int32.reduceMul, z00, z11, pl_i, if_bN, if_bI, bI_0, ite_not, pv_s, pv_n, rc_19, rc_1, true_and, and_true, not_true_eq_false, not_false_eq_true, x_untell, Tk_n2, Tk_ne2]
      rfl
    · simp (config := { decide := true }) only [up_s, ud_n, ud_s, ne_eq, not_false_eq_true]
    · rw [up_n Tk_n2, up_s]
  obtain ⟨I1, b1, b2, b3, b4⟩ := h0
  have hC : CDr v I1 F s00 := by
    unfold CDr
    rw [b4]
    exact ⟨by simp (config := { decide := true }) only [ud_n, ud_s, ne_eq, not_false_eq_true], fun j hj => absurd hj (Nat.not_lt_zero j), fun j hj => absurd hj (Nat.not_lt_zero j), fun j hj => absurd hj (Nat.not_lt_zero j)⟩
  have c := x_runs (L := L) (u := u) (J := J) h150 (n + 1) 0 0 0 (.float 0) I1 F s00 (by omega) (b2.2.1.trans hn) hT hC Gd_00 (by omega) (by omega) b3
  refine ⟨fun f' hf => ?_, fun x hx => ?_⟩
  · obtain ⟨I4, F4, d1, d2⟩ := c.1 f' hf
    exact ⟨I4, F4, b1.trans d1, FrC_tr b2 d2⟩
  · obtain ⟨I4, F4, d1, d2, d3⟩ := c.2 x hx
    exact ⟨I4, F4, b1.trans d1, d2, FrC_tr b2 d3⟩
end PS6
