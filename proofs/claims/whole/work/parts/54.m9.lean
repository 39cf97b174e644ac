section M9
variable {L : Nat} {u v : Bool} {I F I' F' : Nat → Nat → Int32} {J : Nat → Int64} {D : Nat} {s : (Nat → Nat) × (Nat → Nat → Nat)}
theorem neg_f : ∀ f, f ≤ 150 → (-10 - nI f : Int32) < 0 := by
  have h : ∀ f : Fin 151, (-10 - nI f.val : Int32) < 0 := by decide +kernel
  exact fun f hf => h ⟨f, by omega⟩
theorem prs_i {T : Nat → Nat} {n : Nat} : ∀ (k e i : Nat) (s : (Nat → Nat) × (Nat → Nat → Nat)) (x : ((Nat → Nat) × (Nat → Nat → Nat)) × Nat), prs T n k e i s = .inr x → x.2 ≤ i + k
  | 0, e, i, s, x, h => by cases h; exact Nat.le_refl _
  | k + 1, e, i, s, x, h => by
    rw [prs] at h
    split at h
    · split at h
      · cases h
      · have := prs_i k _ _ _ x h
        omega
    · cases h
      show i ≤ i + (k + 1)
      omega
theorem RTl_st {X : Nat → Int32} (hR : RDr X F s) (hG : Gd s) : RTl (stF F) s := by
  obtain ⟨⟨a0, a1, a2, a3, a4⟩, b0, b1, b2⟩ := hR
  have hG1 := hG.1
  refine ⟨⟨?_, ?_, ?_, ?_⟩, fun j hj => ⟨?_, ?_⟩, fun j hj => ⟨?_, ?_, ?_⟩, fun j hj => ?_⟩
  · rw [stF_1 (by decide)]; exact a0
  · rw [stF_1 (by decide)]; exact a1
  · rw [stF_1 (by decide)]; exact a2
  · rw [stF_1 (by decide)]; exact a3
  · rw [stF_2 (by decide) (by omega)]; exact (b0 j hj).1
  · rw [stF_2 (by decide) (by omega)]; exact (b0 j hj).2
  · rw [stF_3 (by decide) (by omega)]; exact (b1 j hj).1
  · rw [stF_3 (by decide) (by omega)]; exact (b1 j hj).2.1
  · rw [stF_3 (by decide) (by omega)]; exact (b1 j hj).2.2
  · rw [stF_4 (by omega)]; exact b2 j hj
theorem RTl_fr2 (hf : FrR F F') (hG : Gd s) (hR : RTl F s) : RTl F' s := by
  obtain ⟨⟨a0, a1, a2, a3⟩, b0, b1, b2⟩ := hR
  have hG1 := hG.1
  obtain ⟨f0, f1, f2, f3, f4⟩ := hf
  refine ⟨⟨?_, ?_, ?_, ?_⟩, fun j hj => ⟨?_, ?_⟩, fun j hj => ⟨?_, ?_, ?_⟩, fun j hj => ?_⟩
  · rw [f1 0 (by decide)]; exact a0
  · rw [f1 1 (by decide)]; exact a1
  · rw [f1 3 (by decide)]; exact a2
  · rw [f1 2 (by decide)]; exact a3
  · rw [(f2 j (by omega)).1]; exact (b0 j hj).1
  · rw [(f2 j (by omega)).2]; exact (b0 j hj).2
  · rw [(f3 j (by omega)).1]; exact (b1 j hj).1
  · rw [(f3 j (by omega)).2.1]; exact (b1 j hj).2.1
  · rw [(f3 j (by omega)).2.2]; exact (b1 j hj).2.2
  · rw [f4 j (by omega)]; exact b2 j hj
/-- a fault: nothing of what counts has changed -/
theorem R_flt {Y : Nat → Int32} {F'' : Nat → Nat → Int32} (hR : R u I F J) (hc : FrC (!u) I F I' F') (hy : FrY (upd (I' 56) 0 0) Y) (hf : FrR F' F'') : R u (va_up I' 56 Y) F'' J := by
  obtain ⟨s, r1, r2, hB, r4, r5, r6, r7⟩ := hR
  have hk := Tk_5 u
  have hk2 := Tk_5 (!u)
  have hkn : Tk u ≠ Tk (!u) := by cases u <;> decide
  have gI : ∀ a, a ≠ 2 → a ≠ Tk (!u) → a ≠ 56 → va_up I' 56 Y a = I a := fun a x y z => (up_n z).trans (hc.1 a x y)
  have gF : ∀ a, a ≠ 4 → (a ≤ Tk (!u) ∨ Tk (!u) + 6 < a) → (a < 58 ∨ 64 < a) → F'' a = F a := fun a x y z => (hf.1 a z).trans (hc.2.2 a x y)
  have g56 : ∀ a, (a < 4 ∨ 8 < a) → a ≠ 10 → a ≠ 0 → va_up I' 56 Y 56 a = I 56 a := fun a x y z => by rw [up_s, hy a x y, ud_n z, hc.1 56 (by omega) (by omega)]
  have e : ∀ a, 58 ≤ a → a ≤ 64 → F' a = F a := fun a x y => hc.2.2 a (by omega) (by omega)
  refine ⟨s, RText_fr ?_ (g56 3 (by omega) (by omega) (by omega)) (gF _ (by omega) (by omega) (by omega)) (gF _ (by omega) (by omega) (by omega)) r1, ⟨CDr_fr (gI _ (by omega) hkn (by omega)) (fun j hj => gF _ (by omega) (by omega) (by omega)) r2.1, r2.2.1, RTl_fr2 hf r2.2.1 (RTl_fr (fun a ha => e a ha.1 ha.2) r2.2.2)⟩, ?_, RUndo_fr (gI _ (by omega) (by omega) (by omega)) (fun j hj => gI _ (by omega) (by omega) (by omega)) (fun j hj => gF _ (by omega) (by omega) (by omega)) (gF _ (by omega) (by omega) (by omega)) (g56 _ (by omega) (by omega) (by omega)) r4, RImg_fr (gF _ (by omega) (by omega) (by omega)) (gF _ (by omega) (by omega) (by omega)) (fun j hj => gI _ (by omega) (by omega) (by omega)) (fun j hj => gF _ (by omega) (by omega) (by omega)) (gF _ (by omega) (by omega) (by omega)) r5, RTas_fr (by rw [gI _ (by omega) (by omega) (by omega)]) (g56 _ (by omega) (by omega) (by omega)) (gF _ (by omega) (by omega) (by omega)) (gF _ (by omega) (by omega) (by omega)) (gF _ (by omega) (by omega) (by omega)) (gF _ (by omega) (by omega) (by omega)) r6, r7⟩
  · rw [up_n (by decide)]
    exact hc.2.1
  · rw [gI 19 (by decide) (by omega) (by decide), gF 20 (by decide) (by omega) (by decide), gF 65 (by decide) (by omega) (by decide)]
    exact hB
def dnI (I : Nat → Nat → Int32) : Nat → Nat → Int32 := va_up (va_up (va_up (va_up I 2 (upd (I 2) 0 0)) 19 (emI (I 19))) 21 (upd (I 21) 0 0)) 45 (upd (I 45) 0 0)
def dnF (F : Nat → Nat → Int32) : Nat → Nat → Int32 := va_up (va_up F 20 (emF (F 20))) 44 (upd (upd (F 44) 0 0) 1 0)
theorem emI_q {f : Nat → Int32} : ∀ q, q ≤ 8 → emI f q = 0
  | 0, _ | 1, _ | 2, _ | 3, _ | 4, _ | 5, _ | 6, _ | 7, _ | 8, _ => by unfold emI; simp (config := { decide := true }) only [ud_s, ud_n, ne_eq, not_false_eq_true]
  | q + 9, h => absurd h (by omega)
theorem emF_q {f : Nat → Int32} : ∀ q, q ≤ 2 → emF f q = 0
  | 0, _ | 1, _ | 2, _ => by unfold emF; simp (config := { decide := true }) only [ud_s, ud_n, ne_eq, not_false_eq_true]
  | q + 3, h => absurd h (by omega)
theorem BE_0 {i g f : Nat → Int32} (h1 : ∀ q, q ≤ 8 → i q = 0) (h2 : ∀ q, q ≤ 2 → g q = 0) (h3 : ∀ q, q < 12 → f q = 0) : BE i g f D := by
  refine BQ_c (i := fun _ => 0) (g := fun _ => 0) (f := fun _ => 0) h1 h2 h3 ⟨⟨⟨rfl, rfl, rfl, rfl, rfl, rfl, rfl, rfl, rfl⟩, rfl, rfl, rfl⟩, 0, 0, 0, 0, 0, 0, 0, rfl, by omega, Or.inl rfl, rfl, by omega, rfl, rfl, rfl, rfl, rfl, Or.inl rfl, by omega⟩
/-- a new dairy told -/
theorem R_dairy {Y : Nat → Int32} {F'' : Nat → Nat → Int32} {s' : (Nat → Nat) × (Nat → Nat → Nat)} (hR : R u I F J) (hc : FrC (!u) I F I' F') (hC : CDr (!u) I' F' s') (hG : Gd s') (hy : FrY (upd (dnI I' 56) 0 0) Y) (hf : FrR (dnF F') F'') (hD : RDr Y F'' s') : R (!u) (stI (va_up (dnI I') 56 Y)) (stF F'') J := by
  obtain ⟨s, r1, r2, hB, ⟨k, x, k1, k2, x1, x2, k3, hU⟩, r5, r6, r7⟩ := hR
  have hk := Tk_5 u
  have hk2 := Tk_5 (!u)
  have gI : ∀ a, a ≠ 2 → a ≠ 19 → a ≠ 21 → a ≠ 45 → a ≠ 56 → stI (va_up (dnI I') 56 Y) a = I' a := fun a x1 x2 x3 x4 x5 => by
    unfold stI dnI
    rw [up_n x5, up_n x5, up_n x4, up_n x3, up_n x2, up_n x1]
  have gF : ∀ a, a ≠ 20 → a ≠ 44 → a < 58 → stF F'' a = F' a := fun a x1 x2 x3 => by
    rw [stF_o (by omega), hf.1 a (by omega)]
    unfold dnF
    rw [up_n x2, up_n x1]
  refine ⟨s', ⟨0, fun _ => 0, ?_, ?_, by omega, fun j hj => absurd hj (Nat.not_lt_zero j)⟩, ⟨CDr_fr (gI _ (by omega) (by omega) (by omega) (by omega) (by omega)) (fun j hj => gF _ (by omega) (by omega) (by omega)) hC, hG, RTl_st hD hG⟩, BE_0 (fun q hq => ?_) (fun q hq => ?_) (fun q hq => stF_5 hq), ⟨0, x, ?_, by omega, ?_, x2, ?_, fun j hj => absurd hj (Nat.not_lt_zero j)⟩, fun a ha => ?_, ⟨0, ?_, ?_, by omega, fun j hj => absurd hj (Nat.not_lt_zero j)⟩, r7⟩
  · unfold stI dnI
    rw [up_n (by decide), up_n (by decide), up_n (by decide), up_n (by decide), up_n (by decide), up_s, ud_s]; rfl
  · unfold stI
    rw [up_s, ud_n (by decide), ud_n (by decide), ud_s]; rfl
  · unfold stI dnI
    rw [up_n (by decide), up_n (by decide), up_n (by decide), up_n (by decide), up_s]
    exact emI_q q hq
  · rw [stF_o (by decide), hf.1 20 (by decide)]
    unfold dnF
    rw [up_n (by decide), up_s]
    exact emF_q q hq
  · unfold stI dnI
    rw [up_n (by decide), up_n (by decide), up_n (by decide), up_s, ud_s]; rfl
  · unfold stI dnI
    rw [up_n (by decide), up_n (by decide), up_n (by decide), up_s, ud_n (by decide), hc.1 21 (by decide) (by omega)]
    exact x1
  · unfold stI
    rw [up_s, ud_s]; rfl
  · have e1 : stF F'' 44 a = 0 := by
      rw [stF_o (by decide), hf.1 44 (by decide)]
      unfold dnF
      rw [up_s]
      rcases (by omega : a = 0 ∨ a = 1) with e | e
      · subst e; rw [ud_n (by decide), ud_s]
      · subst e; rw [ud_s]
    rw [e1, stF_6 ha]
    exact ⟨rfl, Or.inl rfl, fun z => absurd rfl z⟩
  · unfold stI dnI
    rw [up_n (by decide), up_n (by decide), up_s, ud_s]; rfl
  · unfold stI
    rw [up_s, ud_n (by decide), ud_s]; rfl
theorem mc_dairy (hR : R u I F J) : MC L u I F J 56 116 [.ref 1, .float 0, .float 0] [.ref 56, .float 0, .float 0] := by
  obtain ⟨s, ⟨n, T, n1, n2, n3, n4⟩, r2, hB, r4, r5, r6, r7⟩ := id hR
  have hx := x_read (L := L) (u := u) (v := !u) (I := I) (F := F) (J := J) n1 n3 (fun j hj => ⟨(n4 j hj).1, (n4 j hj).2.2⟩)
  have hk2 := Tk_5 (!u)
  cases hp : prs T n (n + 1) 0 0 s00 with
  | inl f =>
    obtain ⟨I', F', a1, a2⟩ := hx.1 f hp
    have e56 : I' 56 = I 56 := a2.1 56 (by decide) (by omega)
    have e57 : F' 57 = F 57 := a2.2.2 57 (by decide) (by omega)
    obtain ⟨Y, F'', b1, b2, b3, b4⟩ := (y_dairy (L := L) (u := u) (v := !u) (I := I') (F := F') (J := J) (T := T) (n := n) (by rw [e56]; exact n2) n3 (fun j hj => by rw [e57]; exact ⟨(n4 j hj).2.1, (n4 j hj).2.2⟩)).1 f hp
    have hn := neg_f f (by omega)
    refine ⟨u, I', F', J, va_up I' 56 Y, F'', J, .int (-10 - nI f), ⟨a2.2.2 0 (by decide) (by omega), (b3.1 0 (by decide)).trans (a2.2.2 0 (by decide) (by omega)), _, rfl⟩, ?_, b1, R_flt hR a2 b2 b3⟩
    set_option maxRecDepth 100000 in simp (config := { decide := true }) only [q56_0, q56_1, q56_4, q56_5, q56_8, q56_11, q56_12, q56_13, q56_16, q56_17, q56_18, q56_19, q56_22, q56_23, q56_24, q56_25, q56_28, q56_31, q56_32, q56_33, q56_36, q56_37, q56_40, q56_41, q56_44, q56_45, q56_48, q56_49, gF_1_0, gF_1_1, gF_1_2, gF_1_3, gF_1_4, gF_1_5, gF_1_6, gF_1_7, gF_1_8, gF_1_9, gF_2_0, gF_2_1, gF_2_2, gF_2_3, gF_2_4, gF_19_0, gF_19_1, gF_19_2, gF_19_3, gF_19_4, gF_19_5, gF_19_6, gF_19_7, gF_19_8, gF_19_9, gF_21_0, gF_21_1, gF_21_2, gF_45_0, gF_45_1, gF_45_2, gF_48_0, gF_48_1, gF_48_2, gF_48_3, gF_56_0, gF_56_1, gF_56_2, gF_56_3, gF_56_4, gF_56_5, gF_56_6, gF_56_7, gF_56_8, gF_56_9, gF_56_10, gF_56_11, gF_56_12, gF_56_13, gF_56_14, gF_56_15, gF_56_16, gF_56_17, gF_56_18, gF_56_19, gF_56_20, gF_56_21, gF_56_22, gF_56_23, gF_56_24, gF_56_25, gF_56_26, gF_Tu_0, gF_Tu_1, gF_Tu_2, gF_Tu_3, gF_Tu_4, gF_Tu_5, gF_Tu_6, gF_Tu_7, gF_Tu_8, gF_Tu_9, gF_Tu_10, gF_Tv_0, gF_Tv_1, gF_Tv_2, gF_Tv_3, gF_Tv_4, gF_Tv_5, gF_Tv_6, gF_Tv_7, gF_Tv_8, gF_Tv_9, gF_Tv_10, pF_1_1, pF_1_2, pF_1_9, pF_2_0, pF_2_3, pF_2_4, pF_19_0, pF_19_1, pF_19_2, pF_19_3, pF_19_4, pF_19_5, pF_19_6, pF_19_7, pF_19_8, pF_21_0, pF_21_1, pF_45_0, pF_48_3, pF_56_0, pF_56_1, pF_56_3, pF_56_4, pF_56_5, pF_56_6, pF_56_7, pF_56_8, pF_56_10, pF_56_21, pF_56_24, pF_Tu_0, pF_Tu_1, pF_Tu_2, pF_Tu_3, pF_Tu_4, pF_Tv_0, pF_Tv_1, pF_Tv_2, pF_Tv_3, pF_Tv_4, gA_3, gA_4, gA_20, gZ_44, gA_46, gA_47, gA_49, gA_50, gA_51, gA_57, gA_58, gA_59, gA_60, gA_61, gA_62, gA_63, gA_64, gA_65, gA_66, gZ_67, gA_68, gA_69, gA_70, gA_71, gA_72, gA_Tu1, gA_Tu2, gA_Tu3, gA_Tu4, gA_Tu5, gA_Tu6, gA_Tv1, gA_Tv2, gA_Tv3, gA_Tv4, gA_Tv5, gA_Tv6, gQ_22, gQ_43, gL_0, gA_0, pA_3, pA_4, pA_20, pZ_44, pA_46, pA_47, pA_49, pA_50, pA_51, pA_57, pA_58, pA_59, pA_60, pA_61, pA_62, pA_63, pA_64, pA_65, pA_66, pZ_67, pA_68, pA_69, pA_70, pA_71, pA_72, pA_Tu1, pA_Tu2, pA_Tu3, pA_Tu4, pA_Tu5, pA_Tu6, pA_Tv1, pA_Tv2, pA_Tv3, pA_Tv4, pA_Tv5, pA_Tv6, rc_1, rc_2, rc_19, rc_21, rc_45, rc_48, rc_56, rc_Tu, rc_Tv, ↓reduceIte, m31_0, m31_1, m31_2, m31_3, m31_4, m31_5, m31_6, m31_7, m31_8, m31_9, m31_10, m31_11, m31_12, m31_13,  Tk_19, Tk_21, Tk_2, rbI_19, rbI_T, rbF_20, rbF_T1, rbF_T2, rbF_T4, Nat.add_left_cancel_iff, ne_eq, bd_s, rc_2, rc_19, rc_21, rc_45, rc_48, rc_56, rc_Tu, rc_Tv, vB_0, tc_0, tc_1, tc_2, tc_3, tc_4, tc_5, tc_6, tc_7, tc_8, tc_9, tc_10, tc_11, tc_12, tc_13, tc_14, if_true, if_false, up_s, ud_s, ud_n, up_n, bx_uu, Int32.reduceLT, Int32.reduceAdd, Int32.reduceSub, Int32.reduceMul, z00, z11, pl_i, if_bN, if_bI, bI_0, ite_not, pv_s, pv_n, rc_19, rc_1, true_and, and_true, not_true_eq_false, not_false_eq_true, a1, hn]
  | inr x =>
    obtain ⟨I', F', a1, a2, a3⟩ := hx.2 x hp
    have hG := prs_ok (n + 1) 0 0 s00 x Gd_00 (by omega) hp
    have hi := prs_i (n + 1) 0 0 s00 x hp
    have e56 : dnI I' 56 = I 56 := by
      unfold dnI
      rw [up_n (by decide), up_n (by decide), up_n (by decide), up_n (by decide)]
      exact a3.1 56 (by decide) (by omega)
    have e0 : dnF F' 0 = F 0 := by
      unfold dnF
      rw [up_n (by decide), up_n (by decide)]
      exact a3.2.2 0 (by decide) (by omega)
    have e57 : dnF F' 57 = F 57 := by
      unfold dnF
      rw [up_n (by decide), up_n (by decide)]
      exact a3.2.2 57 (by decide) (by omega)
    obtain ⟨Y, F'', b1, b2, b3, b4⟩ := (y_dairy (L := L) (u := !u) (v := u) (I := dnI I') (F := dnF F') (J := J) (T := T) (n := n) (by rw [e56]; exact n2) n3 (fun j hj => by rw [e57]; exact ⟨(n4 j hj).2.1, (n4 j hj).2.2⟩)).2 x hp
    have hn : ¬ nI x.2 < 0 := ge0_n (by omega)
    refine ⟨!u, dnI I', dnF F', J, stI (va_up (dnI I') 56 Y), stF F'', J, .int (nI x.2), ⟨e0, by rw [stF_o (by decide), b4.1 0 (by decide), e0], _, rfl⟩, ?_, ?_, R_dairy hR a3 a2 hG b3 b4 b2⟩
    · rw [Bool.not_not]
      unfold dnI dnF
      set_option maxRecDepth 100000 in simp (config := { decide := true }) only [q56_0, q56_1, q56_4, q56_5, q56_8, q56_11, q56_12, q56_13, q56_16, q56_17, q56_18, q56_19, q56_22, q56_23, q56_24, q56_25, q56_28, q56_31, q56_32, q56_33, q56_36, q56_37, q56_40, q56_41, q56_44, q56_45, q56_48, q56_49, gF_1_0, gF_1_1, gF_1_2, gF_1_3, gF_1_4, gF_1_5, gF_1_6, gF_1_7, gF_1_8, gF_1_9, gF_2_0, gF_2_1, gF_2_2, gF_2_3, gF_2_4, gF_19_0, gF_19_1, gF_19_2, gF_19_3, gF_19_4, gF_19_5, gF_19_6, gF_19_7, gF_19_8, gF_19_9, gF_21_0, gF_21_1, gF_21_2, gF_45_0, gF_45_1, gF_45_2, gF_48_0, gF_48_1, gF_48_2, gF_48_3, gF_56_0, gF_56_1, gF_56_2, gF_56_3, gF_56_4, gF_56_5, gF_56_6, gF_56_7, gF_56_8, gF_56_9, gF_56_10, gF_56_11, gF_56_12, gF_56_13, gF_56_14, gF_56_15, gF_56_16, gF_56_17, gF_56_18, gF_56_19, gF_56_20, gF_56_21, gF_56_22, gF_56_23, gF_56_24, gF_56_25, gF_56_26, gF_Tu_0, gF_Tu_1, gF_Tu_2, gF_Tu_3, gF_Tu_4, gF_Tu_5, gF_Tu_6, gF_Tu_7, gF_Tu_8, gF_Tu_9, gF_Tu_10, gF_Tv_0, gF_Tv_1, gF_Tv_2, gF_Tv_3, gF_Tv_4, gF_Tv_5, gF_Tv_6, gF_Tv_7, gF_Tv_8, gF_Tv_9, gF_Tv_10, pF_1_1, pF_1_2, pF_1_9, pF_2_0, pF_2_3, pF_2_4, pF_19_0, pF_19_1, pF_19_2, pF_19_3, pF_19_4, pF_19_5, pF_19_6, pF_19_7, pF_19_8, pF_21_0, pF_21_1, pF_45_0, pF_48_3, pF_56_0, pF_56_1, pF_56_3, pF_56_4, pF_56_5, pF_56_6, pF_56_7, pF_56_8, pF_56_10, pF_56_21, pF_56_24, pF_Tu_0, pF_Tu_1, pF_Tu_2, pF_Tu_3, pF_Tu_4, pF_Tv_0, pF_Tv_1, pF_Tv_2, pF_Tv_3, pF_Tv_4, gA_3, gA_4, gA_20, gZ_44, gA_46, gA_47, gA_49, gA_50, gA_51, gA_57, gA_58, gA_59, gA_60, gA_61, gA_62, gA_63, gA_64, gA_65, gA_66, gZ_67, gA_68, gA_69, gA_70, gA_71, gA_72, gA_Tu1, gA_Tu2, gA_Tu3, gA_Tu4, gA_Tu5, gA_Tu6, gA_Tv1, gA_Tv2, gA_Tv3, gA_Tv4, gA_Tv5, gA_Tv6, gQ_22, gQ_43, gL_0, gA_0, pA_3, pA_4, pA_20, pZ_44, pA_46, pA_47, pA_49, pA_50, pA_51, pA_57, pA_58, pA_59, pA_60, pA_61, pA_62, pA_63, pA_64, pA_65, pA_66, pZ_67, pA_68, pA_69, pA_70, pA_71, pA_72, pA_Tu1, pA_Tu2, pA_Tu3, pA_Tu4, pA_Tu5, pA_Tu6, pA_Tv1, pA_Tv2, pA_Tv3, pA_Tv4, pA_Tv5, pA_Tv6, rc_1, rc_2, rc_19, rc_21, rc_45, rc_48, rc_56, rc_Tu, rc_Tv, ↓reduceIte, m31_0, m31_1, m31_2, m31_3, m31_4, m31_5, m31_6, m31_7, m31_8, m31_9, m31_10, m31_11, m31_12, m31_13,  Tk_19, Tk_21, Tk_2, rbI_19, rbI_T, rbF_20, rbF_T1, rbF_T2, rbF_T4, Nat.add_left_cancel_iff, ne_eq, bd_s, rc_2, rc_19, rc_21, rc_45, rc_48, rc_56, rc_Tu, rc_Tv, vB_0, tc_0, tc_1, tc_2, tc_3, tc_4, tc_5, tc_6, tc_7, tc_8, tc_9, tc_10, tc_11, tc_12, tc_13, tc_14, if_true, if_false, up_s, ud_s, ud_n, up_n, bx_uu, Int32.reduceLT, Int32.reduceAdd, Int32.reduceSub, Int32.reduceMul, z00, z11, pl_i, if_bN, if_bI, bI_0, ite_not, pv_s, pv_n, rc_19, rc_1, true_and, and_true, not_true_eq_false, not_false_eq_true, a1, hn, x_beginAnew]
    · rw [Bool.not_not]
      exact b1
end M9
