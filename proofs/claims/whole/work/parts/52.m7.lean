section M7
variable {L : Nat} {u v : Bool} {I F I' F' : Nat → Nat → Int32} {J : Nat → Int64} {D : Nat} {s : (Nat → Nat) × (Nat → Nat → Nat)}
/-- an image made, on both sides -/
theorem R_keep {a : Nat} (ha : a < 2) (hR : R u I F J) : R u (thI (va_up I (52 + 2 * a) (cpI (I 19) (I (52 + 2 * a))))) (va_up (va_up (va_up (va_up F (53 + 2 * a) (cpF (F 20) (F (53 + 2 * a)))) 44 (upd (F 44) a 1)) 66 (stN (F 66) (F 65) (12 * a) 0 12)) 67 (upd (F 67) a 1)) J := by
  obtain ⟨s, r1, r2, hB, r4, r5, r6, r7⟩ := hR
  have hk := Tk_5 u
  unfold thI
  refine ⟨s, RText_fr ?_ ?_ ?_ ?_ r1, RTold_fr ?_ ?_ ?_ r2, ?_, RUndo_fr ?_ ?_ ?_ ?_ ?_ r4, ?_, RTas_fr ?_ ?_ ?_ ?_ ?_ ?_ r6, r7⟩
  · rw [up_n (by omega), up_n (by omega)]
  · rw [up_s, ud_n (by omega), up_n (by omega)]
  · rw [up_n (by omega), up_n (by omega), up_n (by omega), up_n (by omega)]
  · rw [up_n (by omega), up_n (by omega), up_n (by omega), up_n (by omega)]
  · rw [up_n (by omega), up_n (by omega)]
  · intro j hj
    rw [up_n (by omega), up_n (by omega), up_n (by omega), up_n (by omega)]
  · intro j hj
    rw [up_n (by omega), up_n (by omega), up_n (by omega), up_n (by omega)]
  · rw [up_n (by omega), up_n (by omega), up_n (by omega), up_n (by omega), up_n (by omega), up_n (by omega), up_n (by omega), up_n (by omega), up_n (by omega), up_n (by omega)]
    exact hB
  · rw [up_n (by omega), up_n (by omega)]
  · intro j hj
    rw [up_n (by omega), up_n (by omega)]
  · intro j hj
    rw [up_n (by omega), up_n (by omega), up_n (by omega), up_n (by omega)]
  · rw [up_n (by omega), up_n (by omega), up_n (by omega), up_n (by omega)]
  · rw [up_s, ud_n (by omega), up_n (by omega)]
  · intro b hb
    have c := r5 b hb
    have e1 : ∀ x y z : Nat → Int32, va_up (va_up (va_up (va_up F (53 + 2 * a) x) 44 y) 66 z) 67 (upd (F 67) a 1) 44 = y := fun x y z => by rw [up_n (by decide), up_n (by decide), up_s]
    have e3 : ∀ x y z : Nat → Int32, va_up (va_up (va_up (va_up F (53 + 2 * a) x) 44 y) 66 z) 67 (upd (F 67) a 1) 66 = z := fun x y z => by rw [up_n (by decide), up_s]
    have e4 : ∀ x y : Nat → Int32, va_up (va_up I (52 + 2 * a) x) 56 y (52 + 2 * b) = va_up I (52 + 2 * a) x (52 + 2 * b) := fun x y => up_n (by omega)
    have e5 : ∀ x y z : Nat → Int32, va_up (va_up (va_up (va_up F (53 + 2 * a) x) 44 y) 66 z) 67 (upd (F 67) a 1) (53 + 2 * b) = va_up F (53 + 2 * a) x (53 + 2 * b) := fun x y z => by rw [up_n (by omega), up_n (by omega), up_n (by omega)]
    rw [e1, e3, e4, e5, up_s]
    by_cases g : b = a
    · subst g
      rw [ud_s, ud_s, up_s, up_s]
      refine ⟨rfl, Or.inr rfl, fun _ => BQ_c cpI_q cpF_q (fun q hq => ?_) hB⟩
      unfold stN
      rw [if_pos (by omega)]
      congr 1
      omega
    · rw [ud_n g, ud_n g, up_n (by omega), up_n (by omega)]
      refine ⟨c.1, c.2.1, fun z => BQ_c (fun _ _ => rfl) (fun _ _ => rfl) (fun q hq => ?_) (c.2.2 z)⟩
      unfold stN
      rw [if_neg (by omega)]
  · rw [up_n (by omega), up_n (by omega)]
  · rw [up_s, ud_n (by omega), up_n (by omega)]
  · rw [up_n (by omega), up_n (by omega), up_n (by omega), up_n (by omega)]
  · rw [up_n (by omega), up_n (by omega), up_n (by omega), up_n (by omega)]
  · rw [up_n (by omega), up_n (by omega), up_n (by omega), up_n (by omega)]
  · rw [up_n (by omega), up_n (by omega), up_n (by omega), up_n (by omega)]
theorem mc_keep (hR : R u I F J) {n : Int32} : MC L u I F J 78 154 [.ref 1, .int n] [.ref 56, .int n, .float 0] := by
  obtain ⟨s, r1, r2, hB, ⟨k, x, k1, k2, x1, x2, k3, hU⟩, r5, r6, r7⟩ := id hR
  obtain ⟨hC, hG, hL⟩ := id r2
  obtain ⟨⟨⟨i0, i1, i2, i3, i4, i5, i6, i7, i8⟩, g0, g1, g2⟩, d, h, C, p0, p1, p2, q, f0, hd, f1, f2, h24, f3, f5, f6, f7, f8, f10, hS⟩ := id hB
  obtain ⟨a0, a1, a2, a3, a4⟩ := hC.1
  obtain ⟨b0, b1, b2, b3⟩ := hL.1
  have hD := hG.1.1
  have hr := x_remember (L := L) (u := u) (v := !u) (I := I) (F := F) (J := J) x1 x2 k1 k2 (BE_x hB).1 (BE_x hB).2
  have eg : va_up (rbF F x) 20 (F 20) = rbF F x := by rw [show F 20 = rbF F x 20 from rbF_20.symm, up_id]
  by_cases hn : inB n 0 1
  · obtain ⟨a, ha, e⟩ := inB_of (k := 1) (by decide) hn
    have hm : ∀ I' F', F' 65 0 = F 65 0 → EX 154 0 [.ref 56, .int n, .float 0] [] (mk L u (!u) I' F' J) = some (mk L u (!u) (va_up I' 56 (upd (I' 56) 0 0)) (va_up (va_up F' 66 (stN (F' 66) (F' 65) (12 * a) 0 12)) 67 (upd (F' 67) a 1)) J, some (.int (F 65 0))) := by
      intro I' F' h0
      have := y_keep (L := L) (u := u) (v := !u) (I := I') (F := F') (J := J) (a := a) (by omega)
      rw [e, this, h0]
    have hx : EX 78 0 [.ref 1, .int n] [] (mk L u (!u) I F J) = some (mk L u (!u) (va_up I (52 + 2 * a) (cpI (I 19) (I (52 + 2 * a)))) (va_up (va_up F (53 + 2 * a) (cpF (F 20) (F (53 + 2 * a)))) 44 (upd (F 44) a 1)) J, some (.int (F 65 0))) := by
      rcases (by omega : a = 0 ∨ a = 1) with g | g
      · subst g
        have e : n = 0 := e
        subst e
        have hn : inB (0 : Int32) 0 1 = True := eq_true hn
        have hc := x_copy (L := L) (u := u) (v := !u) (I := I) (F := F) (J := J) (a := 19) (b := 52) rfl rfl (by decide) (by decide) (BE_x hB).1 (BE_x hB).2
        set_option maxRecDepth 100000 in simp (config := { decide := true }) only [q78_0, q78_1, q78_2, q78_3, q78_6, q78_9, q78_10, q78_11, q78_12, q78_15, q78_16, q78_19, q78_20, q78_21, q78_24, q78_25, q78_28, q78_29, q78_30, q78_31, q78_32, q78_35, q78_38, gF_1_0, gF_1_1, gF_1_2, gF_1_3, gF_1_4, gF_1_5, gF_1_6, gF_1_7, gF_1_8, gF_1_9, gF_2_0, gF_2_1, gF_2_2, gF_2_3, gF_2_4, gF_19_0, gF_19_1, gF_19_2, gF_19_3, gF_19_4, gF_19_5, gF_19_6, gF_19_7, gF_19_8, gF_19_9, gF_21_0, gF_21_1, gF_21_2, gF_45_0, gF_45_1, gF_45_2, gF_48_0, gF_48_1, gF_48_2, gF_48_3, gF_56_0, gF_56_1, gF_56_2, gF_56_3, gF_56_4, gF_56_5, gF_56_6, gF_56_7, gF_56_8, gF_56_9, gF_56_10, gF_56_11, gF_56_12, gF_56_13, gF_56_14, gF_56_15, gF_56_16, gF_56_17, gF_56_18, gF_56_19, gF_56_20, gF_56_21, gF_56_22, gF_56_23, gF_56_24, gF_56_25, gF_56_26, gF_Tu_0, gF_Tu_1, gF_Tu_2, gF_Tu_3, gF_Tu_4, gF_Tu_5, gF_Tu_6, gF_Tu_7, gF_Tu_8, gF_Tu_9, gF_Tu_10, gF_Tv_0, gF_Tv_1, gF_Tv_2, gF_Tv_3, gF_Tv_4, gF_Tv_5, gF_Tv_6, gF_Tv_7, gF_Tv_8, gF_Tv_9, gF_Tv_10, pF_1_1, pF_1_2, pF_1_9, pF_2_0, pF_2_3, pF_2_4, pF_19_0, pF_19_1, pF_19_2, pF_19_3, pF_19_4, pF_19_5, pF_19_6, pF_19_7, pF_19_8, pF_21_0, pF_21_1, pF_45_0, pF_48_3, pF_56_0, pF_56_1, pF_56_3, pF_56_4, pF_56_5, pF_56_6, pF_56_7, pF_56_8, pF_56_10, pF_56_21, pF_56_24, pF_Tu_0, pF_Tu_1, pF_Tu_2, pF_Tu_3, pF_Tu_4, pF_Tv_0, pF_Tv_1, pF_Tv_2, pF_Tv_3, pF_Tv_4, gA_3, gA_4, gA_20, gZ_44, gA_46, gA_47, gA_49, gA_50, gA_51, gA_57, gA_58, gA_59, gA_60, gA_61, gA_62, gA_63, gA_64, gA_65, gA_66, gZ_67, gA_68, gA_69, gA_70, gA_71, gA_72, gA_Tu1, gA_Tu2, gA_Tu3, gA_Tu4, gA_Tu5, gA_Tu6, gA_Tv1, gA_Tv2, gA_Tv3, gA_Tv4, gA_Tv5, gA_Tv6, gQ_22, gQ_43, gL_0, gA_0, pA_3, pA_4, pA_20, pZ_44, pA_46, pA_47, pA_49, pA_50, pA_51, pA_57, pA_58, pA_59, pA_60, pA_61, pA_62, pA_63, pA_64, pA_65, pA_66, pZ_67, pA_68, pA_69, pA_70, pA_71, pA_72, pA_Tu1, pA_Tu2, pA_Tu3, pA_Tu4, pA_Tu5, pA_Tu6, pA_Tv1, pA_Tv2, pA_Tv3, pA_Tv4, pA_Tv5, pA_Tv6, rc_1, rc_2, rc_19, rc_21, rc_45, rc_48, rc_56, rc_Tu, rc_Tv, ↓reduceIte, m31_0, m31_1, m31_2, m31_3, m31_4, m31_5, m31_6, m31_7, m31_8, m31_9, m31_10, m31_11, m31_12, m31_13,  Tk_19, Tk_21, Tk_2, rbI_19, rbI_T, rbF_20, rbF_T1, rbF_T2, rbF_T4, Nat.add_left_cancel_iff, ne_eq, x_within, x_isDay, x_isWork, x_isOver, x_hoursOf, x_warmthOf, x_dueOf, x_poundsOf, x_worthOf, x_claimOf, x_allFresh, x_held, x_strokes, x_need, x_come, x_takeFresh, x_feed, x_sleep, x_sets, x_canBeFed, x_isFed, bd_s, rc_2, rc_19, rc_21, rc_45, rc_48, rc_56, rc_Tu, rc_Tv, vB_0, tc_0, tc_1, tc_2, tc_3, tc_4, tc_5, tc_6, tc_7, tc_8, tc_9, tc_10, tc_11, tc_12, tc_13, tc_14, if_true, if_false, up_s, ud_s, ud_n, up_n, bx_uu, Int32.reduceLT, Int32.reduceAdd, Int32.reduceSub, Int32.reduceMul, z00, z11, pl_i, if_bN, if_bI, bI_0, ite_not, pv_s, pv_n, rc_19, rc_1, true_and, and_true, not_true_eq_false, not_false_eq_true, hn, bI_T, hc, i0]
      · subst g
        have e : n = 1 := e
        subst e
        have hn : inB (1 : Int32) 0 1 = True := eq_true hn
        have hc := x_copy (L := L) (u := u) (v := !u) (I := I) (F := F) (J := J) (a := 19) (b := 54) rfl rfl (by decide) (by decide) (BE_x hB).1 (BE_x hB).2
        set_option maxRecDepth 100000 in simp (config := { decide := true }) only [q78_0, q78_1, q78_2, q78_3, q78_6, q78_9, q78_10, q78_11, q78_12, q78_15, q78_16, q78_19, q78_20, q78_21, q78_24, q78_25, q78_28, q78_29, q78_30, q78_31, q78_32, q78_35, q78_38, gF_1_0, gF_1_1, gF_1_2, gF_1_3, gF_1_4, gF_1_5, gF_1_6, gF_1_7, gF_1_8, gF_1_9, gF_2_0, gF_2_1, gF_2_2, gF_2_3, gF_2_4, gF_19_0, gF_19_1, gF_19_2, gF_19_3, gF_19_4, gF_19_5, gF_19_6, gF_19_7, gF_19_8, gF_19_9, gF_21_0, gF_21_1, gF_21_2, gF_45_0, gF_45_1, gF_45_2, gF_48_0, gF_48_1, gF_48_2, gF_48_3, gF_56_0, gF_56_1, gF_56_2, gF_56_3, gF_56_4, gF_56_5, gF_56_6, gF_56_7, gF_56_8, gF_56_9, gF_56_10, gF_56_11, gF_56_12, gF_56_13, gF_56_14, gF_56_15, gF_56_16, gF_56_17, gF_56_18, gF_56_19, gF_56_20, gF_56_21, gF_56_22, gF_56_23, gF_56_24, gF_56_25, gF_56_26, gF_Tu_0, gF_Tu_1, gF_Tu_2, gF_Tu_3, gF_Tu_4, gF_Tu_5, gF_Tu_6, gF_Tu_7, gF_Tu_8, gF_Tu_9, gF_Tu_10, gF_Tv_0, gF_Tv_1, gF_Tv_2, gF_Tv_3, gF_Tv_4, gF_Tv_5, gF_Tv_6, gF_Tv_7, gF_Tv_8, gF_Tv_9, gF_Tv_10, pF_1_1, pF_1_2, pF_1_9, pF_2_0, pF_2_3, pF_2_4, pF_19_0, pF_19_1, pF_19_2, pF_19_3, pF_19_4, pF_19_5, pF_19_6, pF_19_7, pF_19_8, pF_21_0, pF_21_1, pF_45_0, pF_48_3, pF_56_0, pF_56_1, pF_56_3, pF_56_4, pF_56_5, pF_56_6, pF_56_7, pF_56_8, pF_56_10, pF_56_21, pF_56_24, pF_Tu_0, pF_Tu_1, pF_Tu_2, pF_Tu_3, pF_Tu_4, pF_Tv_0, pF_Tv_1, pF_Tv_2, pF_Tv_3, pF_Tv_4, gA_3, gA_4, gA_20, gZ_44, gA_46, gA_47, gA_49, gA_50, gA_51, gA_57, gA_58, gA_59, gA_60, gA_61, gA_62, gA_63, gA_64, gA_65, gA_66, gZ_67, gA_68, gA_69, gA_70, gA_71, gA_72, gA_Tu1, gA_Tu2, gA_Tu3, gA_Tu4, gA_Tu5, gA_Tu6, gA_Tv1, gA_Tv2, gA_Tv3, gA_Tv4, gA_Tv5, gA_Tv6, gQ_22, gQ_43, gL_0, gA_0, pA_3, pA_4, pA_20, pZ_44, pA_46, pA_47, pA_49, pA_50, pA_51, pA_57, pA_58, pA_59, pA_60, pA_61, pA_62, pA_63, pA_64, pA_65, pA_66, pZ_67, pA_68, pA_69, pA_70, pA_71, pA_72, pA_Tu1, pA_Tu2, pA_Tu3, pA_Tu4, pA_Tu5, pA_Tu6, pA_Tv1, pA_Tv2, pA_Tv3, pA_Tv4, pA_Tv5, pA_Tv6, rc_1, rc_2, rc_19, rc_21, rc_45, rc_48, rc_56, rc_Tu, rc_Tv, ↓reduceIte, m31_0, m31_1, m31_2, m31_3, m31_4, m31_5, m31_6, m31_7, m31_8, m31_9, m31_10, m31_11, m31_12, m31_13,  Tk_19, Tk_21, Tk_2, rbI_19, rbI_T, rbF_20, rbF_T1, rbF_T2, rbF_T4, Nat.add_left_cancel_iff, ne_eq, x_within, x_isDay, x_isWork, x_isOver, x_hoursOf, x_warmthOf, x_dueOf, x_poundsOf, x_worthOf, x_claimOf, x_allFresh, x_held, x_strokes, x_need, x_come, x_takeFresh, x_feed, x_sleep, x_sets, x_canBeFed, x_isFed, bd_s, rc_2, rc_19, rc_21, rc_45, rc_48, rc_56, rc_Tu, rc_Tv, vB_0, tc_0, tc_1, tc_2, tc_3, tc_4, tc_5, tc_6, tc_7, tc_8, tc_9, tc_10, tc_11, tc_12, tc_13, tc_14, if_true, if_false, up_s, ud_s, ud_n, up_n, bx_uu, Int32.reduceLT, Int32.reduceAdd, Int32.reduceSub, Int32.reduceMul, z00, z11, pl_i, if_bN, if_bI, bI_0, ite_not, pv_s, pv_n, rc_19, rc_1, true_and, and_true, not_true_eq_false, not_false_eq_true, hn, bI_T, hc, i0]
    have hm2 := hm (va_up I (52 + 2 * a) (cpI (I 19) (I (52 + 2 * a)))) (va_up (va_up F (53 + 2 * a) (cpF (F 20) (F (53 + 2 * a)))) 44 (upd (F 44) a 1)) (by rw [up_n (by omega), up_n (by omega)])
    rw [up_n (by omega) (k := 44) (j := 66), up_n (by omega) (k := 44) (j := 65), up_n (by omega) (k := 44) (j := 67), up_n (by omega) (j := 66), up_n (by omega) (j := 65), up_n (by omega) (j := 67)] at hm2
    exact ⟨u, _, _, J, _, _, J, .int (F 65 0), ⟨by rw [up_n (by omega), up_n (by omega)], by rw [up_n (by omega), up_n (by omega), up_n (by omega), up_n (by omega)], _, rfl⟩, hx, hm2, R_keep (by omega) hR⟩
  · exact MC_q (r := .int (-1)) (by set_option maxRecDepth 100000 in simp (config := { decide := true }) only [q78_0, q78_1, q78_2, q78_3, q78_6, q78_9, q78_10, q78_11, q78_12, q78_15, q78_16, q78_19, q78_20, q78_21, q78_24, q78_25, q78_28, q78_29, q78_30, q78_31, q78_32, q78_35, q78_38, gF_1_0, gF_1_1, gF_1_2, gF_1_3, gF_1_4, gF_1_5, gF_1_6, gF_1_7, gF_1_8, gF_1_9, gF_2_0, gF_2_1, gF_2_2, gF_2_3, gF_2_4, gF_19_0, gF_19_1, gF_19_2, gF_19_3, gF_19_4, gF_19_5, gF_19_6, gF_19_7, gF_19_8, gF_19_9, gF_21_0, gF_21_1, gF_21_2, gF_45_0, gF_45_1, gF_45_2, gF_48_0, gF_48_1, gF_48_2, gF_48_3, gF_56_0, gF_56_1, gF_56_2, gF_56_3, gF_56_4, gF_56_5, gF_56_6, gF_56_7, gF_56_8, gF_56_9, gF_56_10, gF_56_11, gF_56_12, gF_56_13, gF_56_14, gF_56_15, gF_56_16, gF_56_17, gF_56_18, gF_56_19, gF_56_20, gF_56_21, gF_56_22, gF_56_23, gF_56_24, gF_56_25, gF_56_26, gF_Tu_0, gF_Tu_1, gF_Tu_2, gF_Tu_3, gF_Tu_4, gF_Tu_5, gF_Tu_6, gF_Tu_7, gF_Tu_8, gF_Tu_9, gF_Tu_10, gF_Tv_0, gF_Tv_1, gF_Tv_2, gF_Tv_3, gF_Tv_4, gF_Tv_5, gF_Tv_6, gF_Tv_7, gF_Tv_8, gF_Tv_9, gF_Tv_10, pF_1_1, pF_1_2, pF_1_9, pF_2_0, pF_2_3, pF_2_4, pF_19_0, pF_19_1, pF_19_2, pF_19_3, pF_19_4, pF_19_5, pF_19_6, pF_19_7, pF_19_8, pF_21_0, pF_21_1, pF_45_0, pF_48_3, pF_56_0, pF_56_1, pF_56_3, pF_56_4, pF_56_5, pF_56_6, pF_56_7, pF_56_8, pF_56_10, pF_56_21, pF_56_24, pF_Tu_0, pF_Tu_1, pF_Tu_2, pF_Tu_3, pF_Tu_4, pF_Tv_0, pF_Tv_1, pF_Tv_2, pF_Tv_3, pF_Tv_4, gA_3, gA_4, gA_20, gZ_44, gA_46, gA_47, gA_49, gA_50, gA_51, gA_57, gA_58, gA_59, gA_60, gA_61, gA_62, gA_63, gA_64, gA_65, gA_66, gZ_67, gA_68, gA_69, gA_70, gA_71, gA_72, gA_Tu1, gA_Tu2, gA_Tu3, gA_Tu4, gA_Tu5, gA_Tu6, gA_Tv1, gA_Tv2, gA_Tv3, gA_Tv4, gA_Tv5, gA_Tv6, gQ_22, gQ_43, gL_0, gA_0, pA_3, pA_4, pA_20, pZ_44, pA_46, pA_47, pA_49, pA_50, pA_51, pA_57, pA_58, pA_59, pA_60, pA_61, pA_62, pA_63, pA_64, pA_65, pA_66, pZ_67, pA_68, pA_69, pA_70, pA_71, pA_72, pA_Tu1, pA_Tu2, pA_Tu3, pA_Tu4, pA_Tu5, pA_Tu6, pA_Tv1, pA_Tv2, pA_Tv3, pA_Tv4, pA_Tv5, pA_Tv6, rc_1, rc_2, rc_19, rc_21, rc_45, rc_48, rc_56, rc_Tu, rc_Tv, ↓reduceIte, m31_0, m31_1, m31_2, m31_3, m31_4, m31_5, m31_6, m31_7, m31_8, m31_9, m31_10, m31_11, m31_12, m31_13,  Tk_19, Tk_21, Tk_2, rbI_19, rbI_T, rbF_20, rbF_T1, rbF_T2, rbF_T4, Nat.add_left_cancel_iff, ne_eq, x_within, x_isDay, x_isWork, x_isOver, x_hoursOf, x_warmthOf, x_dueOf, x_poundsOf, x_worthOf, x_claimOf, x_allFresh, x_held, x_strokes, x_need, x_come, x_takeFresh, x_feed, x_sleep, x_sets, x_canBeFed, x_isFed, bd_s, rc_2, rc_19, rc_21, rc_45, rc_48, rc_56, rc_Tu, rc_Tv, vB_0, tc_0, tc_1, tc_2, tc_3, tc_4, tc_5, tc_6, tc_7, tc_8, tc_9, tc_10, tc_11, tc_12, tc_13, tc_14, if_true, if_false, up_s, ud_s, ud_n, up_n, bx_uu, Int32.reduceLT, Int32.reduceAdd, Int32.reduceSub, Int32.reduceMul, z00, z11, pl_i, if_bN, if_bI, bI_0, ite_not, pv_s, pv_n, rc_19, rc_1, true_and, and_true, not_true_eq_false, not_false_eq_true, eq_false hn, bI_F]) (y_keepN hn) hR
/-- back to an image, on both sides -/
theorem R_again {a : Nat} (ha : a < 2) (hk0 : F 44 a ≠ 0) (hR : R u I F J) {I1 F1 : Nat → Nat → Int32} (h1 : I1 = va_up (va_up I 19 (cpI (I (52 + 2 * a)) (I 19))) 21 (upd (I 21) 0 0)) (h2 : F1 = va_up F 20 (cpF (F (53 + 2 * a)) (F 20))) : R u (va_up I1 56 (upd (upd (I1 56) 0 0) 21 0)) (va_up F1 65 (stN (F1 65) (F1 66) 0 (12 * a) 12)) J := by
  obtain ⟨s, r1, r2, hB, ⟨k, x, k1, k2, x1, x2, k3, hU⟩, r5, r6, r7⟩ := hR
  have hk := Tk_5 u
  subst h1 h2
  refine ⟨s, RText_fr ?_ ?_ ?_ ?_ r1, RTold_fr ?_ ?_ ?_ r2, ?_, ⟨0, x, ?_, by omega, ?_, x2, ?_, fun j hj => absurd hj (Nat.not_lt_zero j)⟩, RImg_fr ?_ ?_ ?_ ?_ ?_ r5, RTas_fr ?_ ?_ ?_ ?_ ?_ ?_ r6, r7⟩
  · rw [up_n (by omega), up_n (by omega), up_n (by omega)]
  · rw [up_s, ud_n (by omega), ud_n (by omega), up_n (by omega), up_n (by omega)]
  · rw [up_n (by omega), up_n (by omega)]
  · rw [up_n (by omega), up_n (by omega)]
  · rw [up_n (by omega), up_n (by omega), up_n (by omega)]
  · intro j hj
    rw [up_n (by omega), up_n (by omega)]
  · intro j hj
    rw [up_n (by omega), up_n (by omega)]
  · refine BQ_c (fun i hi => ?_) (fun i hi => ?_) (fun i hi => ?_) ((r5 a ha).2.2 hk0)
    · rw [up_n (by omega), up_n (by omega), up_s]
      exact cpI_q i hi
    · rw [up_n (by omega), up_s]
      exact cpF_q i hi
    · rw [up_s, up_n (by omega), up_n (by omega)]
      unfold stN
      rw [if_pos (by omega)]
      rfl
  · rw [up_n (by omega), up_s, ud_s]; rfl
  · rw [up_n (by omega), up_s, ud_n (by omega)]; exact x1
  · rw [up_s, ud_s]; rfl
  · rw [up_n (by omega), up_n (by omega)]
  · rw [up_n (by omega), up_n (by omega)]
  · intro j hj
    rw [up_n (by omega), up_n (by omega), up_n (by omega)]
  · intro j hj
    rw [up_n (by omega), up_n (by omega)]
  · rw [up_n (by omega), up_n (by omega)]
  · rw [up_n (by omega), up_n (by omega), up_n (by omega)]
  · rw [up_s, ud_n (by omega), ud_n (by omega), up_n (by omega), up_n (by omega)]
  · rw [up_n (by omega), up_n (by omega)]
  · rw [up_n (by omega), up_n (by omega)]
  · rw [up_n (by omega), up_n (by omega)]
  · rw [up_n (by omega), up_n (by omega)]
theorem mc_again (hR : R u I F J) {n : Int32} : MC L u I F J 79 155 [.ref 1, .int n] [.ref 56, .int n, .float 0] := by
  obtain ⟨s, r1, r2, hB, ⟨k, x, k1, k2, x1, x2, k3, hU⟩, r5, r6, r7⟩ := id hR
  obtain ⟨hC, hG, hL⟩ := id r2
  obtain ⟨⟨⟨i0, i1, i2, i3, i4, i5, i6, i7, i8⟩, g0, g1, g2⟩, d, h, C, p0, p1, p2, q, f0, hd, f1, f2, h24, f3, f5, f6, f7, f8, f10, hS⟩ := id hB
  obtain ⟨a0, a1, a2, a3, a4⟩ := hC.1
  obtain ⟨b0, b1, b2, b3⟩ := hL.1
  have hD := hG.1.1
  have hr := x_remember (L := L) (u := u) (v := !u) (I := I) (F := F) (J := J) x1 x2 k1 k2 (BE_x hB).1 (BE_x hB).2
  have eg : va_up (rbF F x) 20 (F 20) = rbF F x := by rw [show F 20 = rbF F x 20 from rbF_20.symm, up_id]
  by_cases hn : inB n 0 1
  · obtain ⟨a, ha, e⟩ := inB_of (k := 1) (by decide) hn
    obtain ⟨c1, c2, c3⟩ := r5 a (by omega)
    by_cases h0 : F 44 a = 0
    · have hx : EX 79 0 [.ref 1, .int n] [] (mk L u (!u) I F J) = some (mk L u (!u) I F J, some (.int (-2))) := by
        rcases (by omega : a = 0 ∨ a = 1) with g | g
        · subst g
          have e : n = 0 := e
          subst e
          have hn : inB (0 : Int32) 0 1 = True := eq_true hn
          set_option maxRecDepth 100000 in simp (config := { decide := true }) only [q79_0, q79_1, q79_2, q79_3, q79_6, q79_9, q79_10, q79_11, q79_12, q79_15, q79_16, q79_17, q79_20, q79_22, q79_23, q79_24, q79_27, q79_28, q79_29, q79_30, q79_33, q79_36, q79_37, q79_40, q79_41, q79_44, q79_45, q79_48, q79_51, gF_1_0, gF_1_1, gF_1_2, gF_1_3, gF_1_4, gF_1_5, gF_1_6, gF_1_7, gF_1_8, gF_1_9, gF_2_0, gF_2_1, gF_2_2, gF_2_3, gF_2_4, gF_19_0, gF_19_1, gF_19_2, gF_19_3, gF_19_4, gF_19_5, gF_19_6, gF_19_7, gF_19_8, gF_19_9, gF_21_0, gF_21_1, gF_21_2, gF_45_0, gF_45_1, gF_45_2, gF_48_0, gF_48_1, gF_48_2, gF_48_3, gF_56_0, gF_56_1, gF_56_2, gF_56_3, gF_56_4, gF_56_5, gF_56_6, gF_56_7, gF_56_8, gF_56_9, gF_56_10, gF_56_11, gF_56_12, gF_56_13, gF_56_14, gF_56_15, gF_56_16, gF_56_17, gF_56_18, gF_56_19, gF_56_20, gF_56_21, gF_56_22, gF_56_23, gF_56_24, gF_56_25, gF_56_26, gF_Tu_0, gF_Tu_1, gF_Tu_2, gF_Tu_3, gF_Tu_4, gF_Tu_5, gF_Tu_6, gF_Tu_7, gF_Tu_8, gF_Tu_9, gF_Tu_10, gF_Tv_0, gF_Tv_1, gF_Tv_2, gF_Tv_3, gF_Tv_4, gF_Tv_5, gF_Tv_6, gF_Tv_7, gF_Tv_8, gF_Tv_9, gF_Tv_10, pF_1_1, pF_1_2, pF_1_9, pF_2_0, pF_2_3, pF_2_4, pF_19_0, pF_19_1, pF_19_2, pF_19_3, pF_19_4, pF_19_5, pF_19_6, pF_19_7, pF_19_8, pF_21_0, pF_21_1, pF_45_0, pF_48_3, pF_56_0, pF_56_1, pF_56_3, pF_56_4, pF_56_5, pF_56_6, pF_56_7, pF_56_8, pF_56_10, pF_56_21, pF_56_24, pF_Tu_0, pF_Tu_1, pF_Tu_2, pF_Tu_3, pF_Tu_4, pF_Tv_0, pF_Tv_1, pF_Tv_2, pF_Tv_3, pF_Tv_4, gA_3, gA_4, gA_20, gZ_44, gA_46, gA_47, gA_49, gA_50, gA_51, gA_57, gA_58, gA_59, gA_60, gA_61, gA_62, gA_63, gA_64, gA_65, gA_66, gZ_67, gA_68, gA_69, gA_70, gA_71, gA_72, gA_Tu1, gA_Tu2, gA_Tu3, gA_Tu4, gA_Tu5, gA_Tu6, gA_Tv1, gA_Tv2, gA_Tv3, gA_Tv4, gA_Tv5, gA_Tv6, gQ_22, gQ_43, gL_0, gA_0, pA_3, pA_4, pA_20, pZ_44, pA_46, pA_47, pA_49, pA_50, pA_51, pA_57, pA_58, pA_59, pA_60, pA_61, pA_62, pA_63, pA_64, pA_65, pA_66, pZ_67, pA_68, pA_69, pA_70, pA_71, pA_72, pA_Tu1, pA_Tu2, pA_Tu3, pA_Tu4, pA_Tu5, pA_Tu6, pA_Tv1, pA_Tv2, pA_Tv3, pA_Tv4, pA_Tv5, pA_Tv6, rc_1, rc_2, rc_19, rc_21, rc_45, rc_48, rc_56, rc_Tu, rc_Tv, ↓reduceIte, m31_0, m31_1, m31_2, m31_3, m31_4, m31_5, m31_6, m31_7, m31_8, m31_9, m31_10, m31_11, m31_12, m31_13,  Tk_19, Tk_21, Tk_2, rbI_19, rbI_T, rbF_20, rbF_T1, rbF_T2, rbF_T4, Nat.add_left_cancel_iff, ne_eq, x_within, x_isDay, x_isWork, x_isOver, x_hoursOf, x_warmthOf, x_dueOf, x_poundsOf, x_worthOf, x_claimOf, x_allFresh, x_held, x_strokes, x_need, x_come, x_takeFresh, x_feed, x_sleep, x_sets, x_canBeFed, x_isFed, bd_s, rc_2, rc_19, rc_21, rc_45, rc_48, rc_56, rc_Tu, rc_Tv, vB_0, tc_0, tc_1, tc_2, tc_3, tc_4, tc_5, tc_6, tc_7, tc_8, tc_9, tc_10, tc_11, tc_12, tc_13, tc_14, if_true, if_false, up_s, ud_s, ud_n, up_n, bx_uu, Int32.reduceLT, Int32.reduceAdd, Int32.reduceSub, Int32.reduceMul, z00, z11, pl_i, if_bN, if_bI, bI_0, ite_not, pv_s, pv_n, rc_19, rc_1, true_and, and_true, not_true_eq_false, not_false_eq_true, hn, bI_T, h0]
        · subst g
          have e : n = 1 := e
          subst e
          have hn : inB (1 : Int32) 0 1 = True := eq_true hn
          set_option maxRecDepth 100000 in simp (config := { decide := true }) only [q79_0, q79_1, q79_2, q79_3, q79_6, q79_9, q79_10, q79_11, q79_12, q79_15, q79_16, q79_17, q79_20, q79_22, q79_23, q79_24, q79_27, q79_28, q79_29, q79_30, q79_33, q79_36, q79_37, q79_40, q79_41, q79_44, q79_45, q79_48, q79_51, gF_1_0, gF_1_1, gF_1_2, gF_1_3, gF_1_4, gF_1_5, gF_1_6, gF_1_7, gF_1_8, gF_1_9, gF_2_0, gF_2_1, gF_2_2, gF_2_3, gF_2_4, gF_19_0, gF_19_1, gF_19_2, gF_19_3, gF_19_4, gF_19_5, gF_19_6, gF_19_7, gF_19_8, gF_19_9, gF_21_0, gF_21_1, gF_21_2, gF_45_0, gF_45_1, gF_45_2, gF_48_0, gF_48_1, gF_48_2, gF_48_3, gF_56_0, gF_56_1, gF_56_2, gF_56_3, gF_56_4, gF_56_5, gF_56_6, gF_56_7, gF_56_8, gF_56_9, gF_56_10, gF_56_11, gF_56_12, gF_56_13, gF_56_14, gF_56_15, gF_56_16, gF_56_17, gF_56_18, gF_56_19, gF_56_20, gF_56_21, gF_56_22, gF_56_23, gF_56_24, gF_56_25, gF_56_26, gF_Tu_0, gF_Tu_1, gF_Tu_2, gF_Tu_3, gF_Tu_4, gF_Tu_5, gF_Tu_6, gF_Tu_7, gF_Tu_8, gF_Tu_9, gF_Tu_10, gF_Tv_0, gF_Tv_1, gF_Tv_2, gF_Tv_3, gF_Tv_4, gF_Tv_5, gF_Tv_6, gF_Tv_7, gF_Tv_8, gF_Tv_9, gF_Tv_10, pF_1_1, pF_1_2, pF_1_9, pF_2_0, pF_2_3, pF_2_4, pF_19_0, pF_19_1, pF_19_2, pF_19_3, pF_19_4, pF_19_5, pF_19_6, pF_19_7, pF_19_8, pF_21_0, pF_21_1, pF_45_0, pF_48_3, pF_56_0, pF_56_1, pF_56_3, pF_56_4, pF_56_5, pF_56_6, pF_56_7, pF_56_8, pF_56_10, pF_56_21, pF_56_24, pF_Tu_0, pF_Tu_1, pF_Tu_2, pF_Tu_3, pF_Tu_4, pF_Tv_0, pF_Tv_1, pF_Tv_2, pF_Tv_3, pF_Tv_4, gA_3, gA_4, gA_20, gZ_44, gA_46, gA_47, gA_49, gA_50, gA_51, gA_57, gA_58, gA_59, gA_60, gA_61, gA_62, gA_63, gA_64, gA_65, gA_66, gZ_67, gA_68, gA_69, gA_70, gA_71, gA_72, gA_Tu1, gA_Tu2, gA_Tu3, gA_Tu4, gA_Tu5, gA_Tu6, gA_Tv1, gA_Tv2, gA_Tv3, gA_Tv4, gA_Tv5, gA_Tv6, gQ_22, gQ_43, gL_0, gA_0, pA_3, pA_4, pA_20, pZ_44, pA_46, pA_47, pA_49, pA_50, pA_51, pA_57, pA_58, pA_59, pA_60, pA_61, pA_62, pA_63, pA_64, pA_65, pA_66, pZ_67, pA_68, pA_69, pA_70, pA_71, pA_72, pA_Tu1, pA_Tu2, pA_Tu3, pA_Tu4, pA_Tu5, pA_Tu6, pA_Tv1, pA_Tv2, pA_Tv3, pA_Tv4, pA_Tv5, pA_Tv6, rc_1, rc_2, rc_19, rc_21, rc_45, rc_48, rc_56, rc_Tu, rc_Tv, ↓reduceIte, m31_0, m31_1, m31_2, m31_3, m31_4, m31_5, m31_6, m31_7, m31_8, m31_9, m31_10, m31_11, m31_12, m31_13,  Tk_19, Tk_21, Tk_2, rbI_19, rbI_T, rbF_20, rbF_T1, rbF_T2, rbF_T4, Nat.add_left_cancel_iff, ne_eq, x_within, x_isDay, x_isWork, x_isOver, x_hoursOf, x_warmthOf, x_dueOf, x_poundsOf, x_worthOf, x_claimOf, x_allFresh, x_held, x_strokes, x_need, x_come, x_takeFresh, x_feed, x_sleep, x_sets, x_canBeFed, x_isFed, bd_s, rc_2, rc_19, rc_21, rc_45, rc_48, rc_56, rc_Tu, rc_Tv, vB_0, tc_0, tc_1, tc_2, tc_3, tc_4, tc_5, tc_6, tc_7, tc_8, tc_9, tc_10, tc_11, tc_12, tc_13, tc_14, if_true, if_false, up_s, ud_s, ud_n, up_n, bx_uu, Int32.reduceLT, Int32.reduceAdd, Int32.reduceSub, Int32.reduceMul, z00, z11, pl_i, if_bN, if_bI, bI_0, ite_not, pv_s, pv_n, rc_19, rc_1, true_and, and_true, not_true_eq_false, not_false_eq_true, hn, bI_T, h0]
      refine MC_q (r := .int (-2)) hx ?_ hR
      rw [e]
      exact y_again0 (by omega) (by rw [← c1]; exact h0)
    · have hb := c3 h0
      have b2 := BE_x (I := va_up I 19 (I (52 + 2 * a))) (F := va_up (va_up F 20 (F (53 + 2 * a))) 65 (fun q => F 66 (12 * a + q))) (D := s.1 0) (by rw [up_s, up_n (by decide), up_s, up_s]; exact hb)
      rw [up_s] at b2
      have hi0 : I (52 + 2 * a) 0 = F 66 (12 * a) := hb.1.1.1
      have hm : ∀ I' F', F' 66 = F 66 → F' 67 = F 67 → EX 155 0 [.ref 56, .int n, .float 0] [] (mk L u (!u) I' F' J) = some (mk L u (!u) (va_up I' 56 (upd (upd (I' 56) 0 0) 21 0)) (va_up F' 65 (stN (F' 65) (F' 66) 0 (12 * a) 12)) J, some (.int (F 66 (12 * a)))) := by
        intro I' F' h66 h67
        have := y_again (L := L) (u := u) (v := !u) (I := I') (F := F') (J := J) (a := a) (by omega) (by rw [h67, ← c1]; exact h0)
        rw [e, this, h66]
      have hx : EX 79 0 [.ref 1, .int n] [] (mk L u (!u) I F J) = some (mk L u (!u) (va_up (va_up I 19 (cpI (I (52 + 2 * a)) (I 19))) 21 (upd (I 21) 0 0)) (va_up F 20 (cpF (F (53 + 2 * a)) (F 20))) J, some (.int (F 66 (12 * a)))) := by
        rw [← hi0]
        rcases (by omega : a = 0 ∨ a = 1) with g | g
        · subst g
          have e : n = 0 := e
          subst e
          have hn : inB (0 : Int32) 0 1 = True := eq_true hn
          have hc := x_copy (L := L) (u := u) (v := !u) (I := I) (F := F) (J := J) (a := 52) (b := 19) rfl rfl (by decide) (by decide) b2.1 b2.2
          have h0 : ¬ F 44 0 = 0 := h0
          have z : cpI (I 52) (I 19) 0 = I 52 0 := cpI_q 0 (by decide)
          set_option maxRecDepth 100000 in simp (config := { decide := true }) only [q79_0, q79_1, q79_2, q79_3, q79_6, q79_9, q79_10, q79_11, q79_12, q79_15, q79_16, q79_17, q79_20, q79_22, q79_23, q79_24, q79_27, q79_28, q79_29, q79_30, q79_33, q79_36, q79_37, q79_40, q79_41, q79_44, q79_45, q79_48, q79_51, gF_1_0, gF_1_1, gF_1_2, gF_1_3, gF_1_4, gF_1_5, gF_1_6, gF_1_7, gF_1_8, gF_1_9, gF_2_0, gF_2_1, gF_2_2, gF_2_3, gF_2_4, gF_19_0, gF_19_1, gF_19_2, gF_19_3, gF_19_4, gF_19_5, gF_19_6, gF_19_7, gF_19_8, gF_19_9, gF_21_0, gF_21_1, gF_21_2, gF_45_0, gF_45_1, gF_45_2, gF_48_0, gF_48_1, gF_48_2, gF_48_3, gF_56_0, gF_56_1, gF_56_2, gF_56_3, gF_56_4, gF_56_5, gF_56_6, gF_56_7, gF_56_8, gF_56_9, gF_56_10, gF_56_11, gF_56_12, gF_56_13, gF_56_14, gF_56_15, gF_56_16, gF_56_17, gF_56_18, gF_56_19, gF_56_20, gF_56_21, gF_56_22, gF_56_23, gF_56_24, gF_56_25, gF_56_26, gF_Tu_0, gF_Tu_1, gF_Tu_2, gF_Tu_3, gF_Tu_4, gF_Tu_5, gF_Tu_6, gF_Tu_7, gF_Tu_8, gF_Tu_9, gF_Tu_10, gF_Tv_0, gF_Tv_1, gF_Tv_2, gF_Tv_3, gF_Tv_4, gF_Tv_5, gF_Tv_6, gF_Tv_7, gF_Tv_8, gF_Tv_9, gF_Tv_10, pF_1_1, pF_1_2, pF_1_9, pF_2_0, pF_2_3, pF_2_4, pF_19_0, pF_19_1, pF_19_2, pF_19_3, pF_19_4, pF_19_5, pF_19_6, pF_19_7, pF_19_8, pF_21_0, pF_21_1, pF_45_0, pF_48_3, pF_56_0, pF_56_1, pF_56_3, pF_56_4, pF_56_5, pF_56_6, pF_56_7, pF_56_8, pF_56_10, pF_56_21, pF_56_24, pF_Tu_0, pF_Tu_1, pF_Tu_2, pF_Tu_3, pF_Tu_4, pF_Tv_0, pF_Tv_1, pF_Tv_2, pF_Tv_3, pF_Tv_4, gA_3, gA_4, gA_20, gZ_44, gA_46, gA_47, gA_49, gA_50, gA_51, gA_57, gA_58, gA_59, gA_60, gA_61, gA_62, gA_63, gA_64, gA_65, gA_66, gZ_67, gA_68, gA_69, gA_70, gA_71, gA_72, gA_Tu1, gA_Tu2, gA_Tu3, gA_Tu4, gA_Tu5, gA_Tu6, gA_Tv1, gA_Tv2, gA_Tv3, gA_Tv4, gA_Tv5, gA_Tv6, gQ_22, gQ_43, gL_0, gA_0, pA_3, pA_4, pA_20, pZ_44, pA_46, pA_47, pA_49, pA_50, pA_51, pA_57, pA_58, pA_59, pA_60, pA_61, pA_62, pA_63, pA_64, pA_65, pA_66, pZ_67, pA_68, pA_69, pA_70, pA_71, pA_72, pA_Tu1, pA_Tu2, pA_Tu3, pA_Tu4, pA_Tu5, pA_Tu6, pA_Tv1, pA_Tv2, pA_Tv3, pA_Tv4, pA_Tv5, pA_Tv6, rc_1, rc_2, rc_19, rc_21, rc_45, rc_48, rc_56, rc_Tu, rc_Tv, ↓reduceIte, m31_0, m31_1, m31_2, m31_3, m31_4, m31_5, m31_6, m31_7, m31_8, m31_9, m31_10, m31_11, m31_12, m31_13,  Tk_19, Tk_21, Tk_2, rbI_19, rbI_T, rbF_20, rbF_T1, rbF_T2, rbF_T4, Nat.add_left_cancel_iff, ne_eq, x_within, x_isDay, x_isWork, x_isOver, x_hoursOf, x_warmthOf, x_dueOf, x_poundsOf, x_worthOf, x_claimOf, x_allFresh, x_held, x_strokes, x_need, x_come, x_takeFresh, x_feed, x_sleep, x_sets, x_canBeFed, x_isFed, bd_s, rc_2, rc_19, rc_21, rc_45, rc_48, rc_56, rc_Tu, rc_Tv, vB_0, tc_0, tc_1, tc_2, tc_3, tc_4, tc_5, tc_6, tc_7, tc_8, tc_9, tc_10, tc_11, tc_12, tc_13, tc_14, if_true, if_false, up_s, ud_s, ud_n, up_n, bx_uu, Int32.reduceLT, Int32.reduceAdd, Int32.reduceSub, Int32.reduceMul, z00, z11, pl_i, if_bN, if_bI, bI_0, ite_not, pv_s, pv_n, rc_19, rc_1, true_and, and_true, not_true_eq_false, not_false_eq_true, hn, bI_T, hc, h0, z]
        · subst g
          have e : n = 1 := e
          subst e
          have hn : inB (1 : Int32) 0 1 = True := eq_true hn
          have hc := x_copy (L := L) (u := u) (v := !u) (I := I) (F := F) (J := J) (a := 54) (b := 19) rfl rfl (by decide) (by decide) b2.1 b2.2
          have h0 : ¬ F 44 1 = 0 := h0
          have z : cpI (I 54) (I 19) 0 = I 54 0 := cpI_q 0 (by decide)
          set_option maxRecDepth 100000 in simp (config := { decide := true }) only [q79_0, q79_1, q79_2, q79_3, q79_6, q79_9, q79_10, q79_11, q79_12, q79_15, q79_16, q79_17, q79_20, q79_22, q79_23, q79_24, q79_27, q79_28, q79_29, q79_30, q79_33, q79_36, q79_37, q79_40, q79_41, q79_44, q79_45, q79_48, q79_51, gF_1_0, gF_1_1, gF_1_2, gF_1_3, gF_1_4, gF_1_5, gF_1_6, gF_1_7, gF_1_8, gF_1_9, gF_2_0, gF_2_1, gF_2_2, gF_2_3, gF_2_4, gF_19_0, gF_19_1, gF_19_2, gF_19_3, gF_19_4, gF_19_5, gF_19_6, gF_19_7, gF_19_8, gF_19_9, gF_21_0, gF_21_1, gF_21_2, gF_45_0, gF_45_1, gF_45_2, gF_48_0, gF_48_1, gF_48_2, gF_48_3, gF_56_0, gF_56_1, gF_56_2, gF_56_3, gF_56_4, gF_56_5, gF_56_6, gF_56_7, gF_56_8, gF_56_9, gF_56_10, gF_56_11, gF_56_12, gF_56_13, gF_56_14, gF_56_15, gF_56_16, gF_56_17, gF_56_18, gF_56_19, gF_56_20, gF_56_21, gF_56_22, gF_56_23, gF_56_24, gF_56_25, gF_56_26, gF_Tu_0, gF_Tu_1, gF_Tu_2, gF_Tu_3, gF_Tu_4, gF_Tu_5, gF_Tu_6, gF_Tu_7, gF_Tu_8, gF_Tu_9, gF_Tu_10, gF_Tv_0, gF_Tv_1, gF_Tv_2, gF_Tv_3, gF_Tv_4, gF_Tv_5, gF_Tv_6, gF_Tv_7, gF_Tv_8, gF_Tv_9, gF_Tv_10, pF_1_1, pF_1_2, pF_1_9, pF_2_0, pF_2_3, pF_2_4, pF_19_0, pF_19_1, pF_19_2, pF_19_3, pF_19_4, pF_19_5, pF_19_6, pF_19_7, pF_19_8, pF_21_0, pF_21_1, pF_45_0, pF_48_3, pF_56_0, pF_56_1, pF_56_3, pF_56_4, pF_56_5, pF_56_6, pF_56_7, pF_56_8, pF_56_10, pF_56_21, pF_56_24, pF_Tu_0, pF_Tu_1, pF_Tu_2, pF_Tu_3, pF_Tu_4, pF_Tv_0, pF_Tv_1, pF_Tv_2, pF_Tv_3, pF_Tv_4, gA_3, gA_4, gA_20, gZ_44, gA_46, gA_47, gA_49, gA_50, gA_51, gA_57, gA_58, gA_59, gA_60, gA_61, gA_62, gA_63, gA_64, gA_65, gA_66, gZ_67, gA_68, gA_69, gA_70, gA_71, gA_72, gA_Tu1, gA_Tu2, gA_Tu3, gA_Tu4, gA_Tu5, gA_Tu6, gA_Tv1, gA_Tv2, gA_Tv3, gA_Tv4, gA_Tv5, gA_Tv6, gQ_22, gQ_43, gL_0, gA_0, pA_3, pA_4, pA_20, pZ_44, pA_46, pA_47, pA_49, pA_50, pA_51, pA_57, pA_58, pA_59, pA_60, pA_61, pA_62, pA_63, pA_64, pA_65, pA_66, pZ_67, pA_68, pA_69, pA_70, pA_71, pA_72, pA_Tu1, pA_Tu2, pA_Tu3, pA_Tu4, pA_Tu5, pA_Tu6, pA_Tv1, pA_Tv2, pA_Tv3, pA_Tv4, pA_Tv5, pA_Tv6, rc_1, rc_2, rc_19, rc_21, rc_45, rc_48, rc_56, rc_Tu, rc_Tv, ↓reduceIte, m31_0, m31_1, m31_2, m31_3, m31_4, m31_5, m31_6, m31_7, m31_8, m31_9, m31_10, m31_11, m31_12, m31_13,  Tk_19, Tk_21, Tk_2, rbI_19, rbI_T, rbF_20, rbF_T1, rbF_T2, rbF_T4, Nat.add_left_cancel_iff, ne_eq, x_within, x_isDay, x_isWork, x_isOver, x_hoursOf, x_warmthOf, x_dueOf, x_poundsOf, x_worthOf, x_claimOf, x_allFresh, x_held, x_strokes, x_need, x_come, x_takeFresh, x_feed, x_sleep, x_sets, x_canBeFed, x_isFed, bd_s, rc_2, rc_19, rc_21, rc_45, rc_48, rc_56, rc_Tu, rc_Tv, vB_0, tc_0, tc_1, tc_2, tc_3, tc_4, tc_5, tc_6, tc_7, tc_8, tc_9, tc_10, tc_11, tc_12, tc_13, tc_14, if_true, if_false, up_s, ud_s, ud_n, up_n, bx_uu, Int32.reduceLT, Int32.reduceAdd, Int32.reduceSub, Int32.reduceMul, z00, z11, pl_i, if_bN, if_bI, bI_0, ite_not, pv_s, pv_n, rc_19, rc_1, true_and, and_true, not_true_eq_false, not_false_eq_true, hn, bI_T, hc, h0, z]
      have hm2 := fun I1 => hm I1 _ (show va_up F 20 (cpF (F (53 + 2 * a)) (F 20)) 66 = F 66 from up_n (by decide)) (show va_up F 20 (cpF (F (53 + 2 * a)) (F 20)) 67 = F 67 from up_n (by decide))
      exact ⟨u, _, _, J, _, _, J, _, ⟨by rw [up_n (by omega)], by rw [up_n (by omega), up_n (by omega)], _, rfl⟩, hx, hm2 _, R_again (by omega) h0 hR rfl rfl⟩
  · exact MC_q (r := .int (-1)) (by set_option maxRecDepth 100000 in simp (config := { decide := true }) only [q79_0, q79_1, q79_2, q79_3, q79_6, q79_9, q79_10, q79_11, q79_12, q79_15, q79_16, q79_17, q79_20, q79_22, q79_23, q79_24, q79_27, q79_28, q79_29, q79_30, q79_33, q79_36, q79_37, q79_40, q79_41, q79_44, q79_45, q79_48, q79_51, gF_1_0, gF_1_1, gF_1_2, gF_1_3, gF_1_4, gF_1_5, gF_1_6, gF_1_7, gF_1_8, gF_1_9, gF_2_0, gF_2_1, gF_2_2, gF_2_3, gF_2_4, gF_19_0, gF_19_1, gF_19_2, gF_19_3, gF_19_4, gF_19_5, gF_19_6, gF_19_7, gF_19_8, gF_19_9, gF_21_0, gF_21_1, gF_21_2, gF_45_0, gF_45_1, gF_45_2, gF_48_0, gF_48_1, gF_48_2, gF_48_3, gF_56_0, gF_56_1, gF_56_2, gF_56_3, gF_56_4, gF_56_5, gF_56_6, gF_56_7, gF_56_8, gF_56_9, gF_56_10, gF_56_11, gF_56_12, gF_56_13, gF_56_14, gF_56_15, gF_56_16, gF_56_17, gF_56_18, gF_56_19, gF_56_20, gF_56_21, gF_56_22, gF_56_23, gF_56_24, gF_56_25, gF_56_26, gF_Tu_0, gF_Tu_1, gF_Tu_2, gF_Tu_3, gF_Tu_4, gF_Tu_5, gF_Tu_6, gF_Tu_7, gF_Tu_8, gF_Tu_9, gF_Tu_10, gF_Tv_0, gF_Tv_1, gF_Tv_2, gF_Tv_3, gF_Tv_4, gF_Tv_5, gF_Tv_6, gF_Tv_7, gF_Tv_8, gF_Tv_9, gF_Tv_10, pF_1_1, pF_1_2, pF_1_9, pF_2_0, pF_2_3, pF_2_4, pF_19_0, pF_19_1, pF_19_2, pF_19_3, pF_19_4, pF_19_5, pF_19_6, pF_19_7, pF_19_8, pF_21_0, pF_21_1, pF_45_0, pF_48_3, pF_56_0, pF_56_1, pF_56_3, pF_56_4, pF_56_5, pF_56_6, pF_56_7, pF_56_8, pF_56_10, pF_56_21, pF_56_24, pF_Tu_0, pF_Tu_1, pF_Tu_2, pF_Tu_3, pF_Tu_4, pF_Tv_0, pF_Tv_1, pF_Tv_2, pF_Tv_3, pF_Tv_4, gA_3, gA_4, gA_20, gZ_44, gA_46, gA_47, gA_49, gA_50, gA_51, gA_57, gA_58, gA_59, gA_60, gA_61, gA_62, gA_63, gA_64, gA_65, gA_66, gZ_67, gA_68, gA_69, gA_70, gA_71, gA_72, gA_Tu1, gA_Tu2, gA_Tu3, gA_Tu4, gA_Tu5, gA_Tu6, gA_Tv1, gA_Tv2, gA_Tv3, gA_Tv4, gA_Tv5, gA_Tv6, gQ_22, gQ_43, gL_0, gA_0, pA_3, pA_4, pA_20, pZ_44, pA_46, pA_47, pA_49, pA_50, pA_51, pA_57, pA_58, pA_59, pA_60, pA_61, pA_62, pA_63, pA_64, pA_65, pA_66, pZ_67, pA_68, pA_69, pA_70, pA_71, pA_72, pA_Tu1, pA_Tu2, pA_Tu3, pA_Tu4, pA_Tu5, pA_Tu6, pA_Tv1, pA_Tv2, pA_Tv3, pA_Tv4, pA_Tv5, pA_Tv6, rc_1, rc_2, rc_19, rc_21, rc_45, rc_48, rc_56, rc_Tu, rc_Tv, ↓reduceIte, m31_0, m31_1, m31_2, m31_3, m31_4, m31_5, m31_6, m31_7, m31_8, m31_9, m31_10, m31_11, m31_12, m31_13,  Tk_19, Tk_21, Tk_2, rbI_19, rbI_T, rbF_20, rbF_T1, rbF_T2, rbF_T4, Nat.add_left_cancel_iff, ne_eq, x_within, x_isDay, x_isWork, x_isOver, x_hoursOf, x_warmthOf, x_dueOf, x_poundsOf, x_worthOf, x_claimOf, x_allFresh, x_held, x_strokes, x_need, x_come, x_takeFresh, x_feed, x_sleep, x_sets, x_canBeFed, x_isFed, bd_s, rc_2, rc_19, rc_21, rc_45, rc_48, rc_56, rc_Tu, rc_Tv, vB_0, tc_0, tc_1, tc_2, tc_3, tc_4, tc_5, tc_6, tc_7, tc_8, tc_9, tc_10, tc_11, tc_12, tc_13, tc_14, if_true, if_false, up_s, ud_s, ud_n, up_n, bx_uu, Int32.reduceLT, Int32.reduceAdd, Int32.reduceSub, Int32.reduceMul, z00, z11, pl_i, if_bN, if_bI, bI_0, ite_not, pv_s, pv_n, rc_19, rc_1, true_and, and_true, not_true_eq_false, not_false_eq_true, eq_false hn, bI_F]) (y_againN hn) hR
end M7
