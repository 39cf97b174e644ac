section M2
variable {L : Nat} {u v : Bool} {I F I' F' : Nat → Nat → Int32} {J : Nat → Int64} {D : Nat} {s : (Nat → Nat) × (Nat → Nat → Nat)}
theorem BQ_c {i g f i' g' f' : Nat → Int32} (h1 : ∀ q, q ≤ 8 → i' q = i q) (h2 : ∀ q, q ≤ 2 → g' q = g q) (h3 : ∀ q, q < 12 → f' q = f q) (h : BE i g f D) : BE i' g' f' D := by
  unfold BE BQ BI at *
  rw [h1 0 (by decide), h1 1 (by decide), h1 2 (by decide), h1 3 (by decide), h1 4 (by decide), h1 5 (by decide), h1 6 (by decide), h1 7 (by decide), h1 8 (by decide), h2 0 (by decide), h2 1 (by decide), h2 2 (by decide), h3 0 (by decide), h3 1 (by decide), h3 2 (by decide), h3 3 (by decide), h3 4 (by decide), h3 5 (by decide), h3 6 (by decide), h3 7 (by decide), h3 8 (by decide), h3 9 (by decide), h3 10 (by decide), h3 11 (by decide)]
  exact h
theorem cpI_q {f t : Nat → Int32} : ∀ q, q ≤ 8 → cpI f t q = f q
  | 0, _ | 1, _ | 2, _ | 3, _ | 4, _ | 5, _ | 6, _ | 7, _ | 8, _ => by unfold cpI; simp (config := { decide := true }) only [ud_s, ud_n, ne_eq, not_false_eq_true]
  | q + 9, h => absurd h (by omega)
theorem cpF_q {f t : Nat → Int32} : ∀ q, q ≤ 2 → cpF f t q = f q
  | 0, _ | 1, _ | 2, _ => by unfold cpF; simp (config := { decide := true }) only [ud_s, ud_n, ne_eq, not_false_eq_true]
  | q + 3, h => absurd h (by omega)
theorem rbF_o {x a : Nat} (hx : x < 10) (h : a < 24 ∨ 43 < a ∨ a = 44) : rbF F x a = F a := by
  unfold rbF
  exact up_n (by omega)
theorem rbI_o {x k a : Nat} (hx : x < 10) (h : a < 21 ∨ 42 < a) : rbI I x k a = I a := rbI_n (by omega) (by omega)
/-- the barn as it was, noted on both sides -/
theorem RUndo_note {k x : Nat} (hk : k ≤ 10) (hx : x < 10) (hB : BE (I 19) (F 20) (F 65) D) (hU : ∀ j, j < k → BE (I (23 + 2 * ((x + 10 - k + j) % 10))) (F (24 + 2 * ((x + 10 - k + j) % 10))) (fun q => F 68 (12 * j + q)) D)
  (h1 : ∀ a, 21 ≤ a → a ≤ 42 → I' a = rbI I x k a) (h2 : I' 56 21 = nI (min (k + 1) 10)) (h3 : ∀ a, 22 ≤ a → a ≤ 43 → F' a = rbF F x a) (h4 : F' 68 = noF F k) : RUndo I' F' D := by
  refine ⟨min (k + 1) 10, (x + 1) % 10, ?_, by omega, ?_, by omega, h2, fun j hj => ?_⟩
  · rw [h1 21 (by decide) (by decide)]
    unfold rbI
    rw [up_s, ud_s]
  · rw [h1 21 (by decide) (by decide)]
    unfold rbI
    rw [up_s, ud_n (by decide), ud_s]
  rw [h1 _ (by omega) (by omega), h3 _ (by omega) (by omega), h4]
  by_cases hj2 : j + 1 = min (k + 1) 10
  · have e : ((x + 1) % 10 + 10 - min (k + 1) 10 + j) % 10 = x := by omega
    rw [e]
    have ei : rbI I x k (23 + 2 * x) = cpI (I 19) (I (23 + 2 * x)) := by
      unfold rbI
      rw [up_n (by omega), up_s]
    have ef : rbF F x (24 + 2 * x) = cpF (F 20) (F (24 + 2 * x)) := by
      unfold rbF
      rw [up_s]
    rw [ei, ef]
    refine BQ_c cpI_q cpF_q (fun q hq => ?_) hB
    unfold noF
    by_cases hk10 : k = 10
    · rw [if_pos hk10]
      unfold stN
      rw [if_pos (by omega)]
      congr 1
      omega
    · rw [if_neg hk10]
      unfold stN
      rw [if_pos (by omega)]
      congr 1
      omega
  · by_cases hk10 : k = 10
    · have e : ((x + 1) % 10 + 10 - min (k + 1) 10 + j) % 10 = (x + 10 - k + (j + 1)) % 10 := by omega
      rw [e]
      have b := hU (j + 1) (by omega)
      rw [rbI_n (by omega) (by omega)]
      have ef : rbF F x (24 + 2 * ((x + 10 - k + (j + 1)) % 10)) = F (24 + 2 * ((x + 10 - k + (j + 1)) % 10)) := by
        unfold rbF
        rw [up_n (by omega)]
      rw [ef]
      refine BQ_c (fun _ _ => rfl) (fun _ _ => rfl) (fun q hq => ?_) b
      unfold noF stN shN
      rw [if_pos hk10, if_neg (by omega), if_pos (by omega)]
      congr 1
      omega
    · have e : ((x + 1) % 10 + 10 - min (k + 1) 10 + j) % 10 = (x + 10 - k + j) % 10 := by omega
      rw [e]
      have b := hU j (by omega)
      rw [rbI_n (by omega) (by omega)]
      have ef : rbF F x (24 + 2 * ((x + 10 - k + j) % 10)) = F (24 + 2 * ((x + 10 - k + j) % 10)) := by
        unfold rbF
        rw [up_n (by omega)]
      rw [ef]
      refine BQ_c (fun _ _ => rfl) (fun _ _ => rfl) (fun q hq => ?_) b
      unfold noF stN
      rw [if_neg hk10, if_neg (by omega)]
/-- what is done, on both sides: the barn noted, then changed -/
theorem R_mut {k x : Nat} (hk : k ≤ 10) (hx : x < 10) (r1 : RText I F) (r2 : RTold u I F s) (hB : BE (I 19) (F 20) (F 65) (s.1 0)) (hU : ∀ j, j < k → BE (I (23 + 2 * ((x + 10 - k + j) % 10))) (F (24 + 2 * ((x + 10 - k + j) % 10))) (fun q => F 68 (12 * j + q)) (s.1 0)) (r5 : RImg I F (s.1 0)) (r6 : RTas I F) (r7 : J 1 = J 56)
  (h1 : ∀ a, a ≠ 19 → a ≠ 56 → I' a = rbI I x k a) (h2 : ∀ i, i ≠ 0 → I' 56 i = upd (I 56) 21 (nI (min (k + 1) 10)) i) (h3 : ∀ a, a ≠ 20 → a ≠ 65 → a ≠ 68 → F' a = rbF F x a) (h4 : F' 68 = noF F k) (h5 : BE (I' 19) (F' 20) (F' 65) (s.1 0)) : R u I' F' J := by
  have hk5 := Tk_5 u
  have fI : ∀ a, (a < 19 ∨ 42 < a) → a ≠ 56 → I' a = I a := fun a ha hb => (h1 a (by omega) hb).trans (rbI_o hx (by omega))
  have fF : ∀ a, (a < 20 ∨ 43 < a) → a ≠ 65 → a ≠ 68 → F' a = F a := fun a ha hb hc => (h3 a (by omega) hb hc).trans (rbF_o hx (by omega))
  have f56 : ∀ i, i ≠ 0 → i ≠ 21 → I' 56 i = I 56 i := fun i hi hj => (h2 i hi).trans (ud_n hj)
  refine ⟨s, RText_fr (by rw [fI 2 (by omega) (by omega)]) (f56 3 (by omega) (by omega)) (fF _ (by omega) (by omega) (by omega)) (fF _ (by omega) (by omega) (by omega)) r1, RTold_fr (fI _ (by omega) (by omega)) (fun j hj => fF _ (by omega) (by omega) (by omega)) (fun a ha => fF _ (by omega) (by omega) (by omega)) r2, h5, RUndo_note hk hx hB hU (fun a ha hb => h1 a (by omega) (by omega)) (by rw [h2 21 (by decide), ud_s]) (fun a ha hb => h3 a (by omega) (by omega) (by omega)) h4, RImg_fr (fF _ (by omega) (by omega) (by omega)) (fF _ (by omega) (by omega) (by omega)) (fun j hj => fI _ (by omega) (by omega)) (fun j hj => fF _ (by omega) (by omega) (by omega)) (fF _ (by omega) (by omega) (by omega)) r5, RTas_fr (by rw [fI _ (by omega) (by omega)]) (f56 _ (by omega) (by omega)) (fF _ (by omega) (by omega) (by omega)) (fF _ (by omega) (by omega) (by omega)) (fF _ (by omega) (by omega) (by omega)) (fF _ (by omega) (by omega) (by omega)) r6, r7⟩
theorem y_nts {m : Nat} (hm : I 56 21 = nI m) (h : m ≤ 10) : EX 129 0 [.ref 56, .float 0] [] (mk L u v (va_up I 56 (upd (I 56) 0 0)) F J) = some (mk L u v (va_up I 56 (upd (upd (I 56) 0 0) 21 (nI (min (m + 1) 10)))) (va_up F 68 (noF F m)) J, none) := by
  have a := y_notes (L := L) (u := u) (v := v) (I := va_up I 56 (upd (I 56) 0 0)) (F := F) (J := J) (m := m) (by rw [up_s, ud_n (by decide)]; exact hm) h
  rw [up_s, up2] at a
  exact a
theorem noF_c {m : Nat} (h1 : F' 68 = F 68) (h2 : F' 65 = F 65) : noF F' m = noF F m := by
  unfold noF
  rw [h1, h2]
/-- a call of what is done: what each side must answer -/
theorem MC_m {mx mm : Nat} {ax am : List Value} {r : Value} {b g f : Nat → Int32} {k x : Nat} (hk : k ≤ 10) (hx : x < 10) (r1 : RText I F) (r2 : RTold u I F s) (hB : BE (I 19) (F 20) (F 65) (s.1 0)) (hU : ∀ j, j < k → BE (I (23 + 2 * ((x + 10 - k + j) % 10))) (F (24 + 2 * ((x + 10 - k + j) % 10))) (fun q => F 68 (12 * j + q)) (s.1 0)) (r5 : RImg I F (s.1 0)) (r6 : RTas I F) (r7 : J 1 = J 56)
  (h21 : I 56 21 = nI k)
  (hc : EX mx 0 ax [] (mk L u (!u) I F J) = some (mk L u (!u) (va_up (rbI I x k) 19 b) (va_up (rbF F x) 20 g) J, some r))
  (hm : ∀ I' F', F' 65 = F 65 → (∀ a, 58 ≤ a → a ≤ 64 → F' a = F a) → EX 129 0 [.ref 56, .float 0] [] (mk L u (!u) (va_up I' 56 (upd (I' 56) 0 0)) F' J) = some (mk L u (!u) (va_up I' 56 (upd (upd (I' 56) 0 0) 21 (nI (min (k + 1) 10)))) (va_up F' 68 (noF F' k)) J, none) → EX mm 0 am [] (mk L u (!u) I' F' J) = some (mk L u (!u) (va_up I' 56 (upd (upd (I' 56) 0 0) 21 (nI (min (k + 1) 10)))) (va_up (va_up F' 68 (noF F' k)) 65 f) J, some r))
  (hBE : BE b g f (s.1 0)) (hr : ∃ a, r = .int a := by exact ⟨_, rfl⟩) : MC L u I F J mx mm ax am := by
  have f1 : va_up (rbF F x) 20 g 65 = F 65 := by rw [up_n (by decide), rbF_o hx (by omega)]
  have f2 : ∀ a, 58 ≤ a → a ≤ 64 → va_up (rbF F x) 20 g a = F a := fun a ha hb => by rw [up_n (by omega), rbF_o hx (by omega)]
  have f3 : va_up (rbI I x k) 19 b 56 = I 56 := by rw [up_n (by decide), rbI_o hx (by omega)]
  have f4 : va_up (rbF F x) 20 g 68 = F 68 := by rw [up_n (by decide), rbF_o hx (by omega)]
  have hm2 := hm (va_up (rbI I x k) 19 b) (va_up (rbF F x) 20 g) f1 f2 (y_nts (by rw [f3]; exact h21) hk)
  refine ⟨u, _, _, J, _, _, J, r, ⟨by rw [up_n (by decide), rbF_o hx (by omega)], by rw [up_n (by decide), up_n (by decide), up_n (by decide), rbF_o hx (by omega)], hr⟩, hc, hm2, R_mut hk hx r1 r2 hB hU r5 r6 r7 (fun a ha hb => ?_) (fun i hi => ?_) (fun a ha hb hc => ?_) ?_ ?_⟩
  · rw [up_n hb, up_n ha]
  · rw [up_s, f3]
    by_cases e : i = 21
    · subst e; rw [ud_s, ud_s]
    · rw [ud_n e, ud_n hi, ud_n e]
  · rw [up_n hb, up_n hc, up_n ha]
  · rw [up_n (by decide), up_s]
    exact noF_c f4 f1
  · rw [up_n (by decide), up_s, up_n (by decide), up_n (by decide), up_s, up_s]
    exact hBE
end M2
