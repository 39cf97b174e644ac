/-! both programs side by side -/
def RText (I F : Nat → Nat → Int32) : Prop := ∃ (n : Nat) (T : Nat → Nat), I 2 0 = nI n ∧ I 56 3 = nI n ∧ n ≤ 150 ∧ ∀ j, j < n → F 3 j = nI (T j) ∧ F 57 j = nI (T j) ∧ T j < 256
def RTl (F : Nat → Nat → Int32) (s : (Nat → Nat) × (Nat → Nat → Nat)) : Prop :=
  (F 58 0 = nI (s.1 0) ∧ F 58 1 = nI (s.1 1) ∧ F 58 3 = nI (s.1 2) ∧ F 58 2 = nI (s.1 3)) ∧
  (∀ j, j < s.1 0 → F 59 j = nI (s.2 0 j) ∧ F 60 j = nI (s.2 1 j)) ∧
  (∀ j, j < s.1 1 → F 61 j = nI (s.2 2 j) ∧ F 62 j = nI (s.2 3 j) ∧ F 63 j = nI (s.2 4 j)) ∧
  (∀ j, j < s.1 2 → F 64 j = nI (s.2 5 j))
def RTold (u : Bool) (I F : Nat → Nat → Int32) (s : (Nat → Nat) × (Nat → Nat → Nat)) : Prop := CDr u I F s ∧ Gd s ∧ RTl F s
def BI (f : Nat → Int32) (D : Nat) : Prop := ∃ d h C p0 p1 p2 q : Nat, f 0 = nI d ∧ d ≤ D ∧ (f 1 = 0 ∨ f 1 = 1) ∧ f 2 = nI h ∧ h ≤ 24 ∧ f 3 = nI C ∧ f 5 = nI p0 ∧ f 6 = nI p1 ∧ f 7 = nI p2 ∧ f 8 = nI q ∧ (f 10 = 0 ∨ f 10 = 1) ∧ C + 3 * (p0 + p1 + p2 + q) ≤ 12 * d
def BQ (i g f : Nat → Int32) : Prop := (i 0 = f 0 ∧ i 1 = f 1 ∧ i 2 = f 2 ∧ i 3 = f 3 ∧ i 4 = f 4 ∧ i 5 = f 8 ∧ i 6 = f 9 ∧ i 7 = f 10 ∧ i 8 = f 11) ∧ g 0 = f 5 ∧ g 1 = f 6 ∧ g 2 = f 7
def BE (i g f : Nat → Int32) (D : Nat) : Prop := BQ i g f ∧ BI f D
def RUndo (I F : Nat → Nat → Int32) (D : Nat) : Prop := ∃ k x : Nat, I 21 0 = nI k ∧ k ≤ 10 ∧ I 21 1 = nI x ∧ x < 10 ∧ I 56 21 = nI k ∧ ∀ j, j < k → BE (I (23 + 2 * ((x + 10 - k + j) % 10))) (F (24 + 2 * ((x + 10 - k + j) % 10))) (fun q => F 68 (12 * j + q)) D
def RImg (I F : Nat → Nat → Int32) (D : Nat) : Prop := ∀ a, a < 2 → F 44 a = F 67 a ∧ (F 44 a = 0 ∨ F 44 a = 1) ∧ (F 44 a ≠ 0 → BE (I (52 + 2 * a)) (F (53 + 2 * a)) (fun q => F 66 (12 * a + q)) D)
def RTas (I F : Nat → Nat → Int32) : Prop := ∃ m, I 45 0 = nI m ∧ I 56 24 = nI m ∧ m ≤ 6 ∧ ∀ j, j < m → F 46 j = F 69 j ∧ F 47 j = F 70 j
def R (u : Bool) (I F : Nat → Nat → Int32) (J : Nat → Int64) : Prop := ∃ s, RText I F ∧ RTold u I F s ∧ BE (I 19) (F 20) (F 65) (s.1 0) ∧ RUndo I F (s.1 0) ∧ RImg I F (s.1 0) ∧ RTas I F ∧ J 1 = J 56
section RL1
variable {L : Nat} {u v : Bool} {I F I' F' : Nat → Nat → Int32} {J J' : Nat → Int64} {s : (Nat → Nat) × (Nat → Nat → Nat)} {D : Nat}
theorem RText_fr (h1 : I' 2 0 = I 2 0) (h2 : I' 56 3 = I 56 3) (h3 : F' 3 = F 3) (h4 : F' 57 = F 57) (h : RText I F) : RText I' F' := by
  unfold RText at *
  rw [h1, h2, h3, h4]
  exact h
theorem RTl_fr (h : ∀ a, 58 ≤ a ∧ a ≤ 64 → F' a = F a) (hR : RTl F s) : RTl F' s := by
  unfold RTl at *
  rw [h 58 (by decide), h 59 (by decide), h 60 (by decide), h 61 (by decide), h 62 (by decide), h 63 (by decide), h 64 (by decide)]
  exact hR
theorem RTold_fr (h1 : I' (Tk u) = I (Tk u)) (h2 : ∀ j, 1 ≤ j ∧ j ≤ 6 → F' (Tk u + j) = F (Tk u + j)) (h : ∀ a, 58 ≤ a ∧ a ≤ 64 → F' a = F a) (hR : RTold u I F s) : RTold u I' F' s := ⟨CDr_fr h1 h2 hR.1, hR.2.1, RTl_fr h hR.2.2⟩
theorem RUndo_fr (h1 : I' 21 = I 21) (h2 : ∀ j, j < 10 → I' (23 + 2 * j) = I (23 + 2 * j)) (h3 : ∀ j, j < 10 → F' (24 + 2 * j) = F (24 + 2 * j)) (h4 : F' 68 = F 68) (h5 : I' 56 21 = I 56 21) (h : RUndo I F D) : RUndo I' F' D := by
  obtain ⟨k, x, a1, a2, a3, a4, a5, a6⟩ := h
  refine ⟨k, x, by rw [h1]; exact a1, a2, by rw [h1]; exact a3, a4, by rw [h5]; exact a5, fun j hj => ?_⟩
  rw [h2 _ (by omega), h3 _ (by omega), h4]
  exact a6 j hj
theorem RImg_fr (h1 : F' 44 = F 44) (h2 : F' 67 = F 67) (h3 : ∀ a, a < 2 → I' (52 + 2 * a) = I (52 + 2 * a)) (h4 : ∀ a, a < 2 → F' (53 + 2 * a) = F (53 + 2 * a)) (h5 : F' 66 = F 66) (h : RImg I F D) : RImg I' F' D := by
  intro a ha
  rw [h1, h2, h3 a ha, h4 a ha, h5]
  exact h a ha
theorem RTas_fr (h1 : I' 45 0 = I 45 0) (h2 : I' 56 24 = I 56 24) (h3 : F' 46 = F 46) (h4 : F' 47 = F 47) (h5 : F' 69 = F 69) (h6 : F' 70 = F 70) (h : RTas I F) : RTas I' F' := by
  unfold RTas at *
  rw [h1, h2, h3, h4, h5, h6]
  exact h
/-- what a question may touch -/
theorem R_q (h1 : ∀ a, a ≠ 56 → a ≠ 48 → I' a = I a) (h2 : ∀ k, k ≠ 0 → I' 56 k = I 56 k) (h3 : ∀ a, a ≠ 49 → a ≠ 50 → a ≠ 51 → a ≠ 71 → a ≠ 72 → F' a = F a) (hR : R u I F J) : R u I' F' J := by
  obtain ⟨s, r1, r2, r3, r4, r5, r6, r7⟩ := hR
  have hk := Tk_5 u
  refine ⟨s, RText_fr (by rw [h1 2 (by decide) (by decide)]) (h2 3 (by decide)) (h3 3 (by decide) (by decide) (by decide) (by decide) (by decide)) (h3 57 (by decide) (by decide) (by decide) (by decide) (by decide)) r1, RTold_fr (h1 _ (by omega) (by omega)) (fun j hj => h3 _ (by omega) (by omega) (by omega) (by omega) (by omega)) (fun a ha => h3 _ (by omega) (by omega) (by omega) (by omega) (by omega)) r2, ?_, RUndo_fr (h1 _ (by omega) (by omega)) (fun j hj => h1 _ (by omega) (by omega)) (fun j hj => h3 _ (by omega) (by omega) (by omega) (by omega) (by omega)) (h3 _ (by omega) (by omega) (by omega) (by omega) (by omega)) (h2 _ (by decide)) r4, RImg_fr (h3 _ (by omega) (by omega) (by omega) (by omega) (by omega)) (h3 _ (by omega) (by omega) (by omega) (by omega) (by omega)) (fun j hj => h1 _ (by omega) (by omega)) (fun j hj => h3 _ (by omega) (by omega) (by omega) (by omega) (by omega)) (h3 _ (by omega) (by omega) (by omega) (by omega) (by omega)) r5, RTas_fr (by rw [h1 _ (by omega) (by omega)]) (h2 _ (by decide)) (h3 _ (by omega) (by omega) (by omega) (by omega) (by omega)) (h3 _ (by omega) (by omega) (by omega) (by omega) (by omega)) (h3 _ (by omega) (by omega) (by omega) (by omega) (by omega)) (h3 _ (by omega) (by omega) (by omega) (by omega) (by omega)) r6, r7⟩
  rw [h1 19 (by decide) (by decide), h3 20 (by decide) (by decide) (by decide) (by decide) (by decide), h3 65 (by decide) (by decide) (by decide) (by decide) (by decide)]
  exact r3
/-- one call of both programs: they answer alike -/
def MC (L : Nat) (u : Bool) (I F : Nat → Nat → Int32) (J : Nat → Int64) (mx mm : Nat) (ax am : List Value) : Prop :=
  ∃ u1 I1 F1 J1 I2 F2 J2 r, (F1 0 = F 0 ∧ F2 0 = F 0 ∧ ∃ a, r = .int a) ∧ EX mx 0 ax [] (mk L u (!u) I F J) = some (mk L u1 (!u1) I1 F1 J1, some r) ∧ EX mm 0 am [] (mk L u1 (!u1) I1 F1 J1) = some (mk L u1 (!u1) I2 F2 J2, some r) ∧ R u1 I2 F2 J2
def thI (I : Nat → Nat → Int32) : Nat → Nat → Int32 := va_up I 56 (upd (I 56) 0 0)
theorem MC_q {mx mm : Nat} {ax am : List Value} {r : Value} (hx : EX mx 0 ax [] (mk L u (!u) I F J) = some (mk L u (!u) I F J, some r)) (hm : EX mm 0 am [] (mk L u (!u) I F J) = some (mk L u (!u) (thI I) F J, some r)) (hR : R u I F J) (hr : ∃ a, r = .int a := by exact ⟨_, rfl⟩) : MC L u I F J mx mm ax am :=
  ⟨u, I, F, J, thI I, F, J, r, ⟨rfl, rfl, hr⟩, hx, hm, R_q (fun a x _ => up_n x) (fun k hk => by unfold thI; rw [up_s, ud_n hk]) (fun _ _ _ _ _ _ => rfl) hR⟩
theorem BE_x (hB : BE (I 19) (F 20) (F 65) D) : (I 19 1 &&& 1 = I 19 1) ∧ (I 19 7 &&& 1 = I 19 7) := by
  obtain ⟨⟨⟨a0, a1, a2, a3, a4, a5, a6, a7, a8⟩, b0, b1, b2⟩, d, h, C, p0, p1, p2, q, c0, c1, c2, c3, c4, c5, c6, c7, c8, c9, c10, c11⟩ := hB
  rw [a1, a7]
  refine ⟨?_, ?_⟩
  · rcases c2 with e | e <;> rw [e] <;> decide
  · rcases c10 with e | e <;> rw [e] <;> decide
end RL1
