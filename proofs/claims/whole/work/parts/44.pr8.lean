section PR8
variable {L : Nat} {u v : Bool} {I F F' F'' : Nat → Nat → Int32} {J : Nat → Int64} {h : List Cel} {T : Nat → Nat} {n : Nat} {X Y Z : Nat → Int32} {s : (Nat → Nat) × (Nat → Nat → Nat)}
theorem y_endF (h150 : n ≤ 150) {f : Nat} {i : Int32} {l2 : Value} (hX : St T n X (.inl f)) : EX 116 25 [.ref 56, .int i, l2] [] (mk L u v (va_up I 56 X) F J) = some (mk L u v (va_up I 56 X) F J, some (.int (-10 - nI f))) := by
  obtain ⟨a, b, c⟩ := hX
  have z : ¬ nI f < 0 := ge0_n (by omega)
  refine (q116_25 _ _ _ _).trans ?_
  set_option maxRecDepth 100000 in simp (config := { decide := true }) only [q116_0, q116_1, q116_2, q116_5, q116_6, q116_7, q116_10, q116_11, q116_12, q116_15, q116_16, q116_19, q116_20, q116_21, q116_22, q116_26, q116_29, q116_32, q116_33, q116_36, q116_39, q116_40, q116_41, q116_44, q116_45, q116_48, q116_49, q116_52, q116_55, q116_56, q116_59, q116_60, q116_63, q116_64, q116_65, q116_68, q116_71, q116_72, q116_73, q116_76, q116_77, q116_78, q116_81, q116_82, q116_85, q116_86, q116_89, q116_90, q116_93, q116_94, q116_97, q116_100, q116_101, q116_104, q116_107, q116_109, q116_110, q116_113, q116_114, q116_115, q116_116, q116_119, q116_120, gF_1_0, gF_1_1, gF_1_2, gF_1_3, gF_1_4, gF_1_5, gF_1_6, gF_1_7, gF_1_8, gF_1_9, gF_2_0, gF_2_1, gF_2_2, gF_2_3, gF_2_4, gF_19_0, gF_19_1, gF_19_2, gF_19_3, gF_19_4, gF_19_5, gF_19_6, gF_19_7, gF_19_8, gF_19_9, gF_21_0, gF_21_1, gF_21_2, gF_45_0, gF_45_1, gF_45_2, gF_48_0, gF_48_1, gF_48_2, gF_48_3, gF_56_0, gF_56_1, gF_56_2, gF_56_3, gF_56_4, gF_56_5, gF_56_6, gF_56_7, gF_56_8, gF_56_9, gF_56_10, gF_56_11, gF_56_12, gF_56_13, gF_56_14, gF_56_15, gF_56_16, gF_56_17, gF_56_18, gF_56_19, gF_56_20, gF_56_21, gF_56_22, gF_56_23, gF_56_24, gF_56_25, gF_56_26, gF_Tu_0, gF_Tu_1, gF_Tu_2, gF_Tu_3, gF_Tu_4, gF_Tu_5, gF_Tu_6, gF_Tu_7, gF_Tu_8, gF_Tu_9, gF_Tu_10, gF_Tv_0, gF_Tv_1, gF_Tv_2, gF_Tv_3, gF_Tv_4, gF_Tv_5, gF_Tv_6, gF_Tv_7, gF_Tv_8, gF_Tv_9, gF_Tv_10, pF_1_1, pF_1_2, pF_1_9, pF_2_0, pF_2_3, pF_2_4, pF_19_0, pF_19_1, pF_19_2, pF_19_3, pF_19_4, pF_19_5, pF_19_6, pF_19_7, pF_19_8, pF_21_0, pF_21_1, pF_45_0, pF_48_3, pF_56_0, pF_56_1, pF_56_3, pF_56_4, pF_56_5, pF_56_6, pF_56_7, pF_56_8, pF_56_10, pF_56_21, pF_56_24, pF_Tu_0, pF_Tu_1, pF_Tu_2, pF_Tu_3, pF_Tu_4, pF_Tv_0, pF_Tv_1, pF_Tv_2, pF_Tv_3, pF_Tv_4, gA_3, gA_4, gA_20, gZ_44, gA_46, gA_47, gA_49, gA_50, gA_51, gA_57, gA_58, gA_59, gA_60, gA_61, gA_62, gA_63, gA_64, gA_65, gA_66, gZ_67, gA_68, gA_69, gA_70, gA_71, gA_72, gA_Tu1, gA_Tu2, gA_Tu3, gA_Tu4, gA_Tu5, gA_Tu6, gA_Tv1, gA_Tv2, gA_Tv3, gA_Tv4, gA_Tv5, gA_Tv6, gQ_22, gQ_43, gL_0, gA_0, pA_3, pA_4, pA_20, pZ_44, pA_46, pA_47, pA_49, pA_50, pA_51, pA_57, pA_58, pA_59, pA_60, pA_61, pA_62, pA_63, pA_64, pA_65, pA_66, pZ_67, pA_68, pA_69, pA_70, pA_71, pA_72, pA_Tu1, pA_Tu2, pA_Tu3, pA_Tu4, pA_Tu5, pA_Tu6, pA_Tv1, pA_Tv2, pA_Tv3, pA_Tv4, pA_Tv5, pA_Tv6, rc_1, rc_2, rc_19, rc_21, rc_45, rc_48, rc_56, rc_Tu, rc_Tv, ↓reduceIte, m31_0, m31_1, m31_2, m31_3, m31_4, m31_5, m31_6, m31_7, m31_8, m31_9, m31_10, m31_11, m31_12, m31_13,  Tk_19, Tk_21, Tk_2, rbI_19, rbI_T, rbF_20, rbF_T1, rbF_T2, rbF_T4, Nat.add_left_cancel_iff, ne_eq, bd_s, rc_2, rc_19, rc_21, rc_45, rc_48, rc_56, rc_Tu, rc_Tv, vB_0, tc_0, tc_1, tc_2, tc_3, tc_4, tc_5, tc_6, tc_7, tc_8, tc_9, tc_10, tc_11, tc_12, tc_13, tc_14, if_true, if_false, up_s, ud_s, ud_n, up_n, bx_uu, Int32.reduceLT, Int32.reduceAdd, Int32.reduceSub, Int32.reduceMul, z00, z11, pl_i, if_bN, if_bI, bI_0, ite_not, pv_s, pv_n, rc_19, rc_1, true_and, and_true, not_true_eq_false, not_false_eq_true, y_isWell, a, bI_f z]
theorem y_end0 {e : Nat} {i : Int32} {l2 : Value} (hX : St T n X (.inr e)) (hp : ¬ blk T n e < n) : EX 116 25 [.ref 56, .int i, l2] [] (mk L u v (va_up I 56 X) F J) = some (mk L u v (stI (va_up I 56 X)) (stF F) J, some (.int i)) := by
  obtain ⟨a, b, c, d1, d2, d3, d4, d5⟩ := hX
  have z : (-1 : Int32) < 0 := by decide
  have g5 : X 5 = 0 := by
    rw [d1]
    unfold tkN
    rw [if_neg hp]
    rfl
  refine (q116_25 _ _ _ _).trans ?_
  set_option maxRecDepth 100000 in simp (config := { decide := true }) only [q116_0, q116_1, q116_2, q116_5, q116_6, q116_7, q116_10, q116_11, q116_12, q116_15, q116_16, q116_19, q116_20, q116_21, q116_22, q116_26, q116_29, q116_32, q116_33, q116_36, q116_39, q116_40, q116_41, q116_44, q116_45, q116_48, q116_49, q116_52, q116_55, q116_56, q116_59, q116_60, q116_63, q116_64, q116_65, q116_68, q116_71, q116_72, q116_73, q116_76, q116_77, q116_78, q116_81, q116_82, q116_85, q116_86, q116_89, q116_90, q116_93, q116_94, q116_97, q116_100, q116_101, q116_104, q116_107, q116_109, q116_110, q116_113, q116_114, q116_115, q116_116, q116_119, q116_120, gF_1_0, gF_1_1, gF_1_2, gF_1_3, gF_1_4, gF_1_5, gF_1_6, gF_1_7, gF_1_8, gF_1_9, gF_2_0, gF_2_1, gF_2_2, gF_2_3, gF_2_4, gF_19_0, gF_19_1, gF_19_2, gF_19_3, gF_19_4, gF_19_5, gF_19_6, gF_19_7, gF_19_8, gF_19_9, gF_21_0, gF_21_1, gF_21_2, gF_45_0, gF_45_1, gF_45_2, gF_48_0, gF_48_1, gF_48_2, gF_48_3, gF_56_0, gF_56_1, gF_56_2, gF_56_3, gF_56_4, gF_56_5, gF_56_6, gF_56_7, gF_56_8, gF_56_9, gF_56_10, gF_56_11, gF_56_12, gF_56_13, gF_56_14, gF_56_15, gF_56_16, gF_56_17, gF_56_18, gF_56_19, gF_56_20, gF_56_21, gF_56_22, gF_56_23, gF_56_24, gF_56_25, gF_56_26, gF_Tu_0, gF_Tu_1, gF_Tu_2, gF_Tu_3, gF_Tu_4, gF_Tu_5, gF_Tu_6, gF_Tu_7, gF_Tu_8, gF_Tu_9, gF_Tu_10, gF_Tv_0, gF_Tv_1, gF_Tv_2, gF_Tv_3, gF_Tv_4, gF_Tv_5, gF_Tv_6, gF_Tv_7, gF_Tv_8, gF_Tv_9, gF_Tv_10, pF_1_1, pF_1_2, pF_1_9, pF_2_0, pF_2_3, pF_2_4, pF_19_0, pF_19_1, pF_19_2, pF_19_3, pF_19_4, pF_19_5, pF_19_6, pF_19_7, pF_19_8, pF_21_0, pF_21_1, pF_45_0, pF_48_3, pF_56_0, pF_56_1, pF_56_3, pF_56_4, pF_56_5, pF_56_6, pF_56_7, pF_56_8, pF_56_10, pF_56_21, pF_56_24, pF_Tu_0, pF_Tu_1, pF_Tu_2, pF_Tu_3, pF_Tu_4, pF_Tv_0, pF_Tv_1, pF_Tv_2, pF_Tv_3, pF_Tv_4, gA_3, gA_4, gA_20, gZ_44, gA_46, gA_47, gA_49, gA_50, gA_51, gA_57, gA_58, gA_59, gA_60, gA_61, gA_62, gA_63, gA_64, gA_65, gA_66, gZ_67, gA_68, gA_69, gA_70, gA_71, gA_72, gA_Tu1, gA_Tu2, gA_Tu3, gA_Tu4, gA_Tu5, gA_Tu6, gA_Tv1, gA_Tv2, gA_Tv3, gA_Tv4, gA_Tv5, gA_Tv6, gQ_22, gQ_43, gL_0, gA_0, pA_3, pA_4, pA_20, pZ_44, pA_46, pA_47, pA_49, pA_50, pA_51, pA_57, pA_58, pA_59, pA_60, pA_61, pA_62, pA_63, pA_64, pA_65, pA_66, pZ_67, pA_68, pA_69, pA_70, pA_71, pA_72, pA_Tu1, pA_Tu2, pA_Tu3, pA_Tu4, pA_Tu5, pA_Tu6, pA_Tv1, pA_Tv2, pA_Tv3, pA_Tv4, pA_Tv5, pA_Tv6, rc_1, rc_2, rc_19, rc_21, rc_45, rc_48, rc_56, rc_Tu, rc_Tv, ↓reduceIte, m31_0, m31_1, m31_2, m31_3, m31_4, m31_5, m31_6, m31_7, m31_8, m31_9, m31_10, m31_11, m31_12, m31_13,  Tk_19, Tk_21, Tk_2, rbI_19, rbI_T, rbF_20, rbF_T1, rbF_T2, rbF_T4, Nat.add_left_cancel_iff, ne_eq, bd_s, rc_2, rc_19, rc_21, rc_45, rc_48, rc_56, rc_Tu, rc_Tv, vB_0, tc_0, tc_1, tc_2, tc_3, tc_4, tc_5, tc_6, tc_7, tc_8, tc_9, tc_10, tc_11, tc_12, tc_13, tc_14, if_true, if_false, up_s, ud_s, ud_n, up_n, bx_uu, Int32.reduceLT, Int32.reduceAdd, Int32.reduceSub, Int32.reduceMul, z00, z11, pl_i, if_bN, if_bI, bI_0, ite_not, pv_s, pv_n, rc_19, rc_1, true_and, and_true, not_true_eq_false, not_false_eq_true, y_isWell, a, bI_t z, g5, y_settles]
theorem y_runs (h150 : n ≤ 150) : ∀ (k e i : Nat) (l2 : Value) (X : Nat → Int32) (F : Nat → Nat → Int32) (s : (Nat → Nat) × (Nat → Nat → Nat)), n < e + k → St T n X (.inr e) → (∀ j, j < n → F 57 j = nI (T j) ∧ T j < 256) → RDr X F s → Gd s →
  (∀ f, prs T n k e i s = .inl f → ∃ Y F', EX 116 25 [.ref 56, .int (nI i), l2] [] (mk L u v (va_up I 56 X) F J) = some (mk L u v (va_up I 56 Y) F' J, some (.int (-10 - nI f))) ∧ FrY X Y ∧ FrR F F' ∧ f ≤ n) ∧
  (∀ x, prs T n k e i s = .inr x → ∃ Y F', EX 116 25 [.ref 56, .int (nI i), l2] [] (mk L u v (va_up I 56 X) F J) = some (mk L u v (stI (va_up I 56 Y)) (stF F') J, some (.int (nI x.2))) ∧ RDr Y F' x.1 ∧ FrY X Y ∧ FrR F F') := by
  intro k
  induction k with
  | zero => intro e i l2 X F s hk hX; have := hX.2.1; omega
  | succ k ih =>
    intro e i l2 X F s hk hX hT hR hG
    rw [prs]
    by_cases hp : blk T n e < n
    · rw [if_pos hp]
      obtain ⟨Y, F1, l', y1, y2, y3, y4, y5⟩ := y_item (L := L) (u := u) (v := v) (I := I) (J := J) (i := i) (l2 := l2) h150 hT hX hp hR hG
      cases hi : itm T n e s with
      | inl f =>
        rw [hi] at y2
        refine ⟨fun f' hf => ?_, fun x hx => ?_⟩
        · cases hf
          exact ⟨Y, F1, y1.trans (y_endF h150 y2), y4, y5, y2.2.1⟩
        · cases hx
      | inr w =>
        rw [hi] at y2
        obtain ⟨c1, c2, c3⟩ := itm_ok hG hX.2.1 hp hi
        have c := ih w.2 (i + 1) l' Y F1 w.1 (by omega) y2 (by rw [y5.1 57 (by omega)]; exact hT) (y3 w hi) c1
        refine ⟨fun f' hf => ?_, fun x hx => ?_⟩
        · obtain ⟨Y4, F4, d1, d2, d3, d5⟩ := c.1 f' hf
          exact ⟨Y4, F4, y1.trans d1, FrY_tr y4 d2, FrR_tr y5 d3, d5⟩
        · obtain ⟨Y4, F4, d1, d2, d3, d4⟩ := c.2 x hx
          exact ⟨Y4, F4, y1.trans d1, d2, FrY_tr y4 d3, FrR_tr y5 d4⟩
    · rw [if_neg hp]
      refine ⟨fun f' hf => ?_, fun x hx => ?_⟩
      · cases hf
      · cases hx
        exact ⟨X, F, y_end0 hX hp, hR, FrY_id, FrR_id⟩
theorem y_dairy (hn : I 56 3 = nI n) (h150 : n ≤ 150) (hT : ∀ j, j < n → F 57 j = nI (T j) ∧ T j < 256) :
  (∀ f, prs T n (n + 1) 0 0 s00 = .inl f → ∃ Y F', EX 116 0 [.ref 56, .float 0, .float 0] [] (mk L u v I F J) = some (mk L u v (va_up I 56 Y) F' J, some (.int (-10 - nI f))) ∧ FrY (upd (I 56) 0 0) Y ∧ FrR F F' ∧ f ≤ n) ∧
  (∀ x, prs T n (n + 1) 0 0 s00 = .inr x → ∃ Y F', EX 116 0 [.ref 56, .float 0, .float 0] [] (mk L u v I F J) = some (mk L u v (stI (va_up I 56 Y)) (stF F') J, some (.int (nI x.2))) ∧ RDr Y F' x.1 ∧ FrY (upd (I 56) 0 0) Y ∧ FrR F F') := by
  have hF0 : FrR F (va_up F 58 (upd (upd (upd (upd (F 58) 4 0) 5 0) 6 3) 7 0)) := by
    refine ⟨fun a ha => up_n (by omega), fun j hj => ?_, fun j _ => ⟨by rw [up_n (by decide)], by rw [up_n (by decide)]⟩, fun j _ => ⟨by rw [up_n (by decide)], by rw [up_n (by decide)], by rw [up_n (by decide)]⟩, fun j _ => by rw [up_n (by decide)]⟩
    rw [up_s, ud_n (by omega), ud_n (by omega), ud_n (by omega), ud_n (by omega)]
  have hT0 : ∀ j, j < n → va_up F 58 (upd (upd (upd (upd (F 58) 4 0) 5 0) 6 3) 7 0) 57 j = nI (T j) ∧ T j < 256 := by rw [up_n (by decide)]; exact hT
  obtain ⟨Y, y1, y2, y3⟩ := y_adv (L := L) (u := u) (v := v) (I := I) (J := J) (e := 0) (X := upd (upd (upd (upd (I 56) 0 0) 8 (-1)) 4 0) 10 0) h150 hT0 (by omega) (by rw [ud_n (by decide), ud_n (by decide), ud_n (by decide), ud_n (by decide)]; exact hn) (by rw [ud_n (by decide), ud_s]; rfl)
  have h0 : EX 116 0 [.ref 56, .float 0, .float 0] [] (mk L u v I F J) = EX 116 25 [.ref 56, .int (nI 0), .float 0] [] (mk L u v (va_up I 56 Y) (va_up F 58 (upd (upd (upd (upd (F 58) 4 0) 5 0) 6 3) 7 0)) J) := by
    set_option maxRecDepth 100000 in simp (config := { decide := true }) only [q116_0, q116_1, q116_2, q116_5, q116_6, q116_7, q116_10, q116_11, q116_12, q116_15, q116_16, q116_19, q116_20, q116_21, q116_22, q116_26, q116_29, q116_32, q116_33, q116_36, q116_39, q116_40, q116_41, q116_44, q116_45, q116_48, q116_49, q116_52, q116_55, q116_56, q116_59, q116_60, q116_63, q116_64, q116_65, q116_68, q116_71, q116_72, q116_73, q116_76, q116_77, q116_78, q116_81, q116_82, q116_85, q116_86, q116_89, q116_90, q116_93, q116_94, q116_97, q116_100, q116_101, q116_104, q116_107, q116_109, q116_110, q116_113, q116_114, q116_115, q116_116, q116_119, q116_120, gF_1_0, gF_1_1, gF_1_2, gF_1_3, gF_1_4, gF_1_5, gF_1_6, gF_1_7, gF_1_8, gF_1_9, gF_2_0, gF_2_1, gF_2_2, gF_2_3, gF_2_4, gF_19_0, gF_19_1, gF_19_2, gF_19_3, gF_19_4, gF_19_5, gF_19_6, gF_19_7, gF_19_8, gF_19_9, gF_21_0, gF_21_1, gF_21_2, gF_45_0, gF_45_1, gF_45_2, gF_48_0, gF_48_1, gF_48_2, gF_48_3, gF_56_0, gF_56_1, gF_56_2, gF_56_3, gF_56_4, gF_56_5, gF_56_6, gF_56_7, gF_56_8, gF_56_9, gF_56_10, gF_56_11, gF_56_12, gF_56_13, gF_56_14, gF_56_15, gF_56_16, gF_56_17, gF_56_18, gF_56_19, gF_56_20, gF_56_21, gF_56_22, gF_56_23, gF_56_24, gF_56_25, gF_56_26, gF_Tu_0, gF_Tu_1, gF_Tu_2, gF_Tu_3, gF_Tu_4, gF_Tu_5, gF_Tu_6, gF_Tu_7, gF_Tu_8, gF_Tu_9, gF_Tu_10, gF_Tv_0, gF_Tv_1, gF_Tv_2, gF_Tv_3, gF_Tv_4, gF_Tv_5, gF_Tv_6, gF_Tv_7, gF_Tv_8, gF_Tv_9, gF_Tv_10, pF_1_1, pF_1_2, pF_1_9, pF_2_0, pF_2_3, pF_2_4, pF_19_0, pF_19_1, pF_19_2, pF_19_3, pF_19_4, pF_19_5, pF_19_6, pF_19_7, pF_19_8, pF_21_0, pF_21_1, pF_45_0, pF_48_3, pF_56_0, pF_56_1, pF_56_3, pF_56_4, pF_56_5, pF_56_6, pF_56_7, pF_56_8, pF_56_10, pF_56_21, pF_56_24, pF_Tu_0, pF_Tu_1, pF_Tu_2, pF_Tu_3, pF_Tu_4, pF_Tv_0, pF_Tv_1, pF_Tv_2, pF_Tv_3, pF_Tv_4, gA_3, gA_4, gA_20, gZ_44, gA_46, gA_47, gA_49, gA_50, gA_51, gA_57, gA_58, gA_59, gA_60, gA_61, gA_62, gA_63, gA_64, gA_65, gA_66, gZ_67, gA_68, gA_69, gA_70, gA_71, gA_72, gA_Tu1, gA_Tu2, gA_Tu3, gA_Tu4, gA_Tu5, gA_Tu6, gA_Tv1, gA_Tv2, gA_Tv3, gA_Tv4, gA_Tv5, gA_Tv6, gQ_22, gQ_43, gL_0, gA_0, pA_3, pA_4, pA_20, pZ_44, pA_46, pA_47, pA_49, pA_50, pA_51, pA_57, pA_58, pA_59, pA_60, pA_61, pA_62, pA_63, pA_64, pA_65, pA_66, pZ_67, pA_68, pA_69, pA_70, pA_71, pA_72, pA_Tu1, pA_Tu2, pA_Tu3, pA_Tu4, pA_Tu5, pA_Tu6, pA_Tv1, pA_Tv2, pA_Tv3, pA_Tv4, pA_Tv5, pA_Tv6, rc_1, rc_2, rc_19, rc_21, rc_45, rc_48, rc_56, rc_Tu, rc_Tv, ↓reduceIte, m31_0, m31_1, m31_2, m31_3, m31_4, m31_5, m31_6, m31_7, m31_8, m31_9, m31_10, m31_11, m31_12, m31_13,  Tk_19, Tk_21, Tk_2, rbI_19, rbI_T, rbF_20, rbF_T1, rbF_T2, rbF_T4, Nat.add_left_cancel_iff, ne_eq, bd_s, rc_2, rc_19, rc_21, rc_45, rc_48, rc_56, rc_Tu, rc_Tv, vB_0, tc_0, tc_1, tc_2, tc_3, tc_4, tc_5, tc_6, tc_7, tc_8, tc_9, tc_10, tc_11, tc_12, tc_13, tc_14, if_true, if_false, up_s, ud_s, ud_n, up_n, bx_uu, Int32.reduceLT, Int32.reduceAdd, Int32.reduceSub, Int32.reduceMul, z00, z11, pl_i, if_bN, if_bI, bI_0, ite_not, pv_s, pv_n, rc_19, rc_1, true_and, and_true, not_true_eq_false, not_false_eq_true, y_begins, up2, y1]
    rfl
  have hS : St T n Y (.inr 0) := by
    refine ⟨?_, by omega, ?_, y2⟩
    · rw [y3 8 (by omega), ud_n (by decide), ud_n (by decide), ud_s]
    · rw [y3 3 (by omega), ud_n (by decide), ud_n (by decide), ud_n (by decide), ud_n (by decide)]; exact hn
  have hR : RDr Y (va_up F 58 (upd (upd (upd (upd (F 58) 4 0) 5 0) 6 3) 7 0)) s00 := by
    unfold RDr
    refine ⟨⟨?_, ?_, ?_, ?_, ?_⟩, fun j hj => absurd hj (Nat.not_lt_zero j), fun j hj => absurd hj (Nat.not_lt_zero j), fun j hj => absurd hj (Nat.not_lt_zero j)⟩
    · rw [up_s, ud_n (by decide), ud_n (by decide), ud_n (by decide), ud_s]; rfl
    · rw [up_s, ud_n (by decide), ud_n (by decide), ud_s]; rfl
    · rw [up_s, ud_s]; rfl
    · rw [up_s, ud_n (by decide), ud_s]; rfl
    · rw [y3 10 (by omega), ud_s]; rfl
  have hFr : FrY (upd (I 56) 0 0) Y := fun a x y => by rw [y3 a (by omega), ud_n y, ud_n (by omega), ud_n (by omega)]
  have c := y_runs (L := L) (u := u) (v := v) (I := I) (J := J) h150 (n + 1) 0 0 (.float 0) Y _ s00 (by omega) hS hT0 hR Gd_00
  refine ⟨fun f' hf => ?_, fun x hx => ?_⟩
  · obtain ⟨Y4, F4, d1, d2, d3, d5⟩ := c.1 f' hf
    exact ⟨Y4, F4, h0.trans d1, FrY_tr hFr d2, FrR_tr hF0 d3, d5⟩
  · obtain ⟨Y4, F4, d1, d2, d3, d4⟩ := c.2 x hx
    exact ⟨Y4, F4, h0.trans d1, d2, FrY_tr hFr d3, FrR_tr hF0 d4⟩
end PR8
