section PR5
variable {L : Nat} {u v : Bool} {I F F' F'' : Nat → Nat → Int32} {J : Nat → Int64} {h : List Cel} {T : Nat → Nat} {n : Nat} {X Y Z : Nat → Int32} {s : (Nat → Nat) × (Nat → Nat → Nat)}
theorem tk_lt {e : Nat} : tkN T n e < 5 := by
  unfold tkN
  split
  · split
    · split <;> decide
    · split
      · decide
      · split <;> decide
  · decide
theorem tk_0 {e : Nat} (hp : blk T n e < n) : tkN T n e ≠ 0 := by
  unfold tkN
  rw [if_pos hp]
  split
  · split <;> decide
  · split
    · decide
    · split <;> decide
theorem tk_3 {e : Nat} : tkN T n e = 3 ↔ spO T n e = true := by
  unfold tkN spO
  rw [decide_eq_true_eq]
  by_cases hp : blk T n e < n
  · rw [if_pos hp]
    by_cases hd : isDg (T (blk T n e)) = true
    · rw [if_pos hd]
      have d1 : 48 ≤ T (blk T n e) ∧ T (blk T n e) ≤ 57 := of_decide_eq_true hd
      refine ⟨fun z => ?_, fun z => by omega⟩
      split at z <;> exact absurd z (by decide)
    · rw [if_neg hd]
      by_cases g : T (blk T n e) = 59
      · rw [if_pos g]; exact ⟨fun _ => ⟨hp, g⟩, fun _ => rfl⟩
      · rw [if_neg g]
        refine ⟨fun z => ?_, fun z => absurd z.2 g⟩
        split at z <;> exact absurd z (by decide)
  · rw [if_neg hp]
    exact ⟨fun z => absurd z (by decide), fun z => absurd z.1 hp⟩
theorem y_stop (h150 : n ≤ 150) (hT : ∀ j, j < n → F 57 j = nI (T j) ∧ T j < 256) {q : Nat ⊕ Nat} (hX : St T n X q) : ∃ Y w, EX 111 0 [.ref 56, .int (if X 5 = 3 then 1 else 0), .float 0] [] (mk L u v (va_up I 56 X) F J) = some (mk L u v (va_up I 56 Y) F J, some (.int w)) ∧ St T n Y (spQ T n q) ∧ FrX X Y := by
  cases q with
  | inl f => exact ⟨X, 0, y_tkF hX.2.1 h150 hX.1, hX, FrX_id⟩
  | inr e =>
    have hX2 := hX
    obtain ⟨a, b, c, d1, d2, d3, d4, d5⟩ := hX2
    by_cases g : spO T n e = true
    · have g1 : X 5 = 3 := by rw [d1, tk_3.mpr g]; rfl
      obtain ⟨Y, y1, y2, y3⟩ := St_A (L := L) (u := u) (v := v) (I := I) (J := J) h150 hT hX (sp_lt g)
      rw [if_pos g1, spQ_t g]
      exact ⟨Y, _, y_tk1 a y1, y2, y3⟩
    · have g1 : ¬ X 5 = 3 := by
        rw [d1]
        exact fun z => g (tk_3.mp (nI_inj (j := 3) (by have := tk_lt (T := T) (n := n) (e := e); omega) (by decide) z))
      rw [if_neg g1, spQ_f g]
      exact ⟨_, _, y_tk0 a, St_F hX, FrX_8⟩
theorem tk_1 {e : Nat} (hr : roO s.1 (T (blk T n e)) = true) (hp : blk T n e < n) : tkN T n e = 1 ∧ (T (blk T n e) = 100 ∨ T (blk T n e) = 119 ∨ T (blk T n e) = 102 ∨ T (blk T n e) = 99) ∧ ¬ isDg (T (blk T n e)) = true := by
  have g : T (blk T n e) = 100 ∨ T (blk T n e) = 119 ∨ T (blk T n e) = 102 ∨ T (blk T n e) = 99 := by
    unfold roO at hr
    split at hr
    · exact Or.inr (Or.inr (Or.inr (by assumption)))
    · split at hr
      · exact Or.inl (by assumption)
      · split at hr
        · exact Or.inr (Or.inr (Or.inl (by assumption)))
        · split at hr
          · exact Or.inr (Or.inl (by assumption))
          · exact absurd hr (by decide)
  have d : ¬ isDg (T (blk T n e)) = true := fun z => by
    have d1 : 48 ≤ T (blk T n e) ∧ T (blk T n e) ≤ 57 := of_decide_eq_true z
    omega
  refine ⟨?_, g, d⟩
  unfold tkN
  rw [if_pos hp, if_neg d, if_neg (by omega), if_pos g]
theorem tk_1' {e : Nat} (h : tkN T n e = 1) : T (blk T n e) = 100 ∨ T (blk T n e) = 119 ∨ T (blk T n e) = 102 ∨ T (blk T n e) = 99 := by
  unfold tkN at h
  split at h
  · split at h
    · split at h <;> exact absurd h (by decide)
    · split at h
      · exact absurd h (by decide)
      · split at h
        · assumption
        · exact absurd h (by decide)
  · exact absurd h (by decide)
theorem y_rou (h150 : n ≤ 150) (hT : ∀ j, j < n → F 57 j = nI (T j) ∧ T j < 256) {e i : Nat} {l2 : Value} (hX : St T n X (.inr e)) (hp : blk T n e < n) (hR : RDr X F s) (hG : Gd s) (hr : roO s.1 (T (blk T n e)) = true) {q : Nat ⊕ Nat} (hrd : ∀ Y, St T n Y (.inr (blk T n e + 1)) → RDr Y F s → ∃ Z, EX 115 0 [.ref 56, .int (nI (T (blk T n e))), .float 0] [] (mk L u v (va_up I 56 Y) F J) = some (mk L u v (va_up I 56 Z) F' J, none) ∧ St T n Z q ∧ FrY Y Z ∧ Z 10 = (if T (blk T n e) = 102 then 1 else Y 10)) (hfr : FrR F F') : ∃ Y l', EX 116 25 [.ref 56, .int (nI i), l2] [] (mk L u v (va_up I 56 X) F J) = EX 116 25 [.ref 56, .int (nI (i + 1)), l'] [] (mk L u v (va_up I 56 Y) F' J) ∧ St T n Y (spQ T n q) ∧ FrY X Y ∧ Y 10 = (if T (blk T n e) = 102 then 1 else X 10) := by
  have hX2 := hX
  obtain ⟨a, b, c, d1, d2, d3, d4, d5⟩ := hX2
  obtain ⟨k1, k2, k3⟩ := tk_1 hr hp
  obtain ⟨t1, t2⟩ := hT _ hp
  have g5 : X 5 = 1 := by rw [d1, k1]; rfl
  have w1 : (-1 : Int32) < 0 := by decide
  have hm := y_may (L := L) (u := u) (v := v) (I := I) (J := J) (d4 k1) t2 k2 hR hG
  rw [bI_t hr] at hm
  obtain ⟨Y1, y1, y2, y3⟩ := St_A (L := L) (u := u) (v := v) (I := I) (J := J) h150 hT hX hp
  have hn1 : nxe T n e = blk T n e + 1 := if_neg k3
  rw [hn1] at y2
  have ht := y_tk1 a y1
  have hR1 : RDr Y1 F s := ⟨⟨hR.1.1, hR.1.2.1, hR.1.2.2.1, hR.1.2.2.2.1, by rw [y3 10 (by omega)]; exact hR.1.2.2.2.2⟩, hR.2.1, hR.2.2.1, hR.2.2.2⟩
  obtain ⟨Z, z1, z2, z3, z4⟩ := hrd Y1 y2 hR1
  obtain ⟨W, w, o1, o2, o3⟩ := y_stop (L := L) (u := u) (v := v) (I := I) (F := F') (J := J) h150 (by rw [hfr.1 57 (by omega)]; exact hT) z2
  refine ⟨W, .int (nI (T (blk T n e))), ?_, o2, FrY_tr (FrY_X y3) (FrY_tr z3 (FrY_X o3)), by rw [o3 10 (by omega), z4, y3 10 (by omega)]⟩
  refine (q116_25 _ _ _ _).trans ?_
  have hY8 := y2.1
  by_cases g : Z 5 = 3
  · rw [if_pos g] at o1
    set_option maxRecDepth 100000 in simp (config := { decide := true }) only [q116_0, q116_1, q116_2, q116_5, q116_6, q116_7, q116_10, q116_11, q116_12, q116_15, q116_16, q116_19, q116_20, q116_21, q116_22, q116_26, q116_29, q116_32, q116_33, q116_36, q116_39, q116_40, q116_41, q116_44, q116_45, q116_48, q116_49, q116_52, q116_55, q116_56, q116_59, q116_60, q116_63, q116_64, q116_65, q116_68, q116_71, q116_72, q116_73, q116_76, q116_77, q116_78, q116_81, q116_82, q116_85, q116_86, q116_89, q116_90, q116_93, q116_94, q116_97, q116_100, q116_101, q116_104, q116_107, q116_109, q116_110, q116_113, q116_114, q116_115, q116_116, q116_119, q116_120, gF_1_0, gF_1_1, gF_1_2, gF_1_3, gF_1_4, gF_1_5, gF_1_6, gF_1_7, gF_1_8, gF_1_9, gF_2_0, gF_2_1, gF_2_2, gF_2_3, gF_2_4, gF_19_0, gF_19_1, gF_19_2, gF_19_3, gF_19_4, gF_19_5, gF_19_6, gF_19_7, gF_19_8, gF_19_9, gF_21_0, gF_21_1, gF_21_2, gF_45_0, gF_45_1, gF_45_2, gF_48_0, gF_48_1, gF_48_2, gF_48_3, gF_56_0, gF_56_1, gF_56_2, gF_56_3, gF_56_4, gF_56_5, gF_56_6, gF_56_7, gF_56_8, gF_56_9, gF_56_10, gF_56_11, gF_56_12, gF_56_13, gF_56_14, gF_56_15, gF_56_16, gF_56_17, gF_56_18, gF_56_19, gF_56_20, gF_56_21, gF_56_22, gF_56_23, gF_56_24, gF_56_25, gF_56_26, gF_Tu_0, gF_Tu_1, gF_Tu_2, gF_Tu_3, gF_Tu_4, gF_Tu_5, gF_Tu_6, gF_Tu_7, gF_Tu_8, gF_Tu_9, gF_Tu_10, gF_Tv_0, gF_Tv_1, gF_Tv_2, gF_Tv_3, gF_Tv_4, gF_Tv_5, gF_Tv_6, gF_Tv_7, gF_Tv_8, gF_Tv_9, gF_Tv_10, pF_1_1, pF_1_2, pF_1_9, pF_2_0, pF_2_3, pF_2_4, pF_19_0, pF_19_1, pF_19_2, pF_19_3, pF_19_4, pF_19_5, pF_19_6, pF_19_7, pF_19_8, pF_21_0, pF_21_1, pF_45_0, pF_48_3, pF_56_0, pF_56_1, pF_56_3, pF_56_4, pF_56_5, pF_56_6, pF_56_7, pF_56_8, pF_56_10, pF_56_21, pF_56_24, pF_Tu_0, pF_Tu_1, pF_Tu_2, pF_Tu_3, pF_Tu_4, pF_Tv_0, pF_Tv_1, pF_Tv_2, pF_Tv_3, pF_Tv_4, gA_3, gA_4, gA_20, gZ_44, gA_46, gA_47, gA_49, gA_50, gA_51, gA_57, gA_58, gA_59, gA_60, gA_61, gA_62, gA_63, gA_64, gA_65, gA_66, gZ_67, gA_68, gA_69, gA_70, gA_71, gA_72, gA_Tu1, gA_Tu2, gA_Tu3, gA_Tu4, gA_Tu5, gA_Tu6, gA_Tv1, gA_Tv2, gA_Tv3, gA_Tv4, gA_Tv5, gA_Tv6, gQ_22, gQ_43, gL_0, gA_0, pA_3, pA_4, pA_20, pZ_44, pA_46, pA_47, pA_49, pA_50, pA_51, pA_57, pA_58, pA_59, pA_60, pA_61, pA_62, pA_63, pA_64, pA_65, pA_66, pZ_67, pA_68, pA_69, pA_70, pA_71, pA_72, pA_Tu1, pA_Tu2, pA_Tu3, pA_Tu4, pA_Tu5, pA_Tu6, pA_Tv1, pA_Tv2, pA_Tv3, pA_Tv4, pA_Tv5, pA_Tv6, rc_1, rc_2, rc_19, rc_21, rc_45, rc_48, rc_56, rc_Tu, rc_Tv, ↓reduceIte, m31_0, m31_1, m31_2, m31_3, m31_4, m31_5, m31_6, m31_7, m31_8, m31_9, m31_10, m31_11, m31_12, m31_13,  Tk_19, Tk_21, Tk_2, rbI_19, rbI_T, rbF_20, rbF_T1, rbF_T2, rbF_T4, Nat.add_left_cancel_iff, ne_eq, bd_s, rc_2, rc_19, rc_21, rc_45, rc_48, rc_56, rc_Tu, rc_Tv, vB_0, tc_0, tc_1, tc_2, tc_3, tc_4, tc_5, tc_6, tc_7, tc_8, tc_9, tc_10, tc_11, tc_12, tc_13, tc_14, if_true, if_false, up_s, ud_s, ud_n, up_n, bx_uu, Int32.reduceLT, Int32.reduceAdd, Int32.reduceSub, Int32.reduceMul, z00, z11, pl_i, if_bN, if_bI, bI_0, ite_not, pv_s, pv_n, rc_19, rc_1, true_and, and_true, not_true_eq_false, not_false_eq_true, y_isWell, a, bI_t w1, g5, hm, ht, d4 k1, hY8, z1, g, o1, nI_1]
  · rw [if_neg g] at o1
    set_option maxRecDepth 100000 in simp (config := { decide := true }) only [q116_0, q116_1, q116_2, q116_5, q116_6, q116_7, q116_10, q116_11, q116_12, q116_15, q116_16, q116_19, q116_20, q116_21, q116_22, q116_26, q116_29, q116_32, q116_33, q116_36, q116_39, q116_40, q116_41, q116_44, q116_45, q116_48, q116_49, q116_52, q116_55, q116_56, q116_59, q116_60, q116_63, q116_64, q116_65, q116_68, q116_71, q116_72, q116_73, q116_76, q116_77, q116_78, q116_81, q116_82, q116_85, q116_86, q116_89, q116_90, q116_93, q116_94, q116_97, q116_100, q116_101, q116_104, q116_107, q116_109, q116_110, q116_113, q116_114, q116_115, q116_116, q116_119, q116_120, gF_1_0, gF_1_1, gF_1_2, gF_1_3, gF_1_4, gF_1_5, gF_1_6, gF_1_7, gF_1_8, gF_1_9, gF_2_0, gF_2_1, gF_2_2, gF_2_3, gF_2_4, gF_19_0, gF_19_1, gF_19_2, gF_19_3, gF_19_4, gF_19_5, gF_19_6, gF_19_7, gF_19_8, gF_19_9, gF_21_0, gF_21_1, gF_21_2, gF_45_0, gF_45_1, gF_45_2, gF_48_0, gF_48_1, gF_48_2, gF_48_3, gF_56_0, gF_56_1, gF_56_2, gF_56_3, gF_56_4, gF_56_5, gF_56_6, gF_56_7, gF_56_8, gF_56_9, gF_56_10, gF_56_11, gF_56_12, gF_56_13, gF_56_14, gF_56_15, gF_56_16, gF_56_17, gF_56_18, gF_56_19, gF_56_20, gF_56_21, gF_56_22, gF_56_23, gF_56_24, gF_56_25, gF_56_26, gF_Tu_0, gF_Tu_1, gF_Tu_2, gF_Tu_3, gF_Tu_4, gF_Tu_5, gF_Tu_6, gF_Tu_7, gF_Tu_8, gF_Tu_9, gF_Tu_10, gF_Tv_0, gF_Tv_1, gF_Tv_2, gF_Tv_3, gF_Tv_4, gF_Tv_5, gF_Tv_6, gF_Tv_7, gF_Tv_8, gF_Tv_9, gF_Tv_10, pF_1_1, pF_1_2, pF_1_9, pF_2_0, pF_2_3, pF_2_4, pF_19_0, pF_19_1, pF_19_2, pF_19_3, pF_19_4, pF_19_5, pF_19_6, pF_19_7, pF_19_8, pF_21_0, pF_21_1, pF_45_0, pF_48_3, pF_56_0, pF_56_1, pF_56_3, pF_56_4, pF_56_5, pF_56_6, pF_56_7, pF_56_8, pF_56_10, pF_56_21, pF_56_24, pF_Tu_0, pF_Tu_1, pF_Tu_2, pF_Tu_3, pF_Tu_4, pF_Tv_0, pF_Tv_1, pF_Tv_2, pF_Tv_3, pF_Tv_4, gA_3, gA_4, gA_20, gZ_44, gA_46, gA_47, gA_49, gA_50, gA_51, gA_57, gA_58, gA_59, gA_60, gA_61, gA_62, gA_63, gA_64, gA_65, gA_66, gZ_67, gA_68, gA_69, gA_70, gA_71, gA_72, gA_Tu1, gA_Tu2, gA_Tu3, gA_Tu4, gA_Tu5, gA_Tu6, gA_Tv1, gA_Tv2, gA_Tv3, gA_Tv4, gA_Tv5, gA_Tv6, gQ_22, gQ_43, gL_0, gA_0, pA_3, pA_4, pA_20, pZ_44, pA_46, pA_47, pA_49, pA_50, pA_51, pA_57, pA_58, pA_59, pA_60, pA_61, pA_62, pA_63, pA_64, pA_65, pA_66, pZ_67, pA_68, pA_69, pA_70, pA_71, pA_72, pA_Tu1, pA_Tu2, pA_Tu3, pA_Tu4, pA_Tu5, pA_Tu6, pA_Tv1, pA_Tv2, pA_Tv3, pA_Tv4, pA_Tv5, pA_Tv6, rc_1, rc_2, rc_19, rc_21, rc_45, rc_48, rc_56, rc_Tu, rc_Tv, ↓reduceIte, m31_0, m31_1, m31_2, m31_3, m31_4, m31_5, m31_6, m31_7, m31_8, m31_9, m31_10, m31_11, m31_12, m31_13,  Tk_19, Tk_21, Tk_2, rbI_19, rbI_T, rbF_20, rbF_T1, rbF_T2, rbF_T4, Nat.add_left_cancel_iff, ne_eq, bd_s, rc_2, rc_19, rc_21, rc_45, rc_48, rc_56, rc_Tu, rc_Tv, vB_0, tc_0, tc_1, tc_2, tc_3, tc_4, tc_5, tc_6, tc_7, tc_8, tc_9, tc_10, tc_11, tc_12, tc_13, tc_14, if_true, if_false, up_s, ud_s, ud_n, up_n, bx_uu, Int32.reduceLT, Int32.reduceAdd, Int32.reduceSub, Int32.reduceMul, z00, z11, pl_i, if_bN, if_bI, bI_0, ite_not, pv_s, pv_n, rc_19, rc_1, true_and, and_true, not_true_eq_false, not_false_eq_true, y_isWell, a, bI_t w1, g5, hm, ht, d4 k1, hY8, z1, g, o1, nI_1]
theorem y_rou0 (h150 : n ≤ 150) (hT : ∀ j, j < n → F 57 j = nI (T j) ∧ T j < 256) {e i : Nat} {l2 : Value} (hX : St T n X (.inr e)) (hp : blk T n e < n) (hR : RDr X F s) (hG : Gd s) (hr : ¬ roO s.1 (T (blk T n e)) = true) : ∃ Y l', EX 116 25 [.ref 56, .int (nI i), l2] [] (mk L u v (va_up I 56 X) F J) = EX 116 25 [.ref 56, .int (nI (i + 1)), l'] [] (mk L u v (va_up I 56 Y) F J) ∧ St T n Y (.inl (blk T n e)) ∧ FrY X Y := by
  have hX2 := hX
  obtain ⟨a, b, c, d1, d2, d3, d4, d5⟩ := hX2
  obtain ⟨t1, t2⟩ := hT _ hp
  have w1 : (-1 : Int32) < 0 := by decide
  have ht := y_tk0 (L := L) (u := u) (v := v) (I := I) (F := F) (J := J) a
  have hS := St_F hX
  have w2 : ¬ X 6 < 0 := by rw [d2]; exact ge0_n (by omega)
  have hlt := tk_lt (T := T) (n := n) (e := e)
  have g0 : ¬ X 5 = 0 := by
    rw [d1]
    exact fun z => tk_0 hp (nI_inj (j := 0) (by omega) (by decide) z)
  have o0 := y_tkF (L := L) (u := u) (v := v) (I := I) (F := F) (J := J) (b := 0) hS.2.1 h150 hS.1
  have o1 := y_tkF (L := L) (u := u) (v := v) (I := I) (F := F) (J := J) (b := 1) hS.2.1 h150 hS.1
  refine ⟨_, .int 0, ?_, hS, FrY_X FrX_8⟩
  refine (q116_25 _ _ _ _).trans ?_
  by_cases g1 : tkN T n e = 1
  · have g5 : X 5 = 1 := by rw [d1, g1]; rfl
    have hm := y_may (L := L) (u := u) (v := v) (I := I) (J := J) (d4 g1) t2 (tk_1' g1) hR hG
    rw [bI_f hr] at hm
    set_option maxRecDepth 100000 in simp (config := { decide := true }) only [q116_0, q116_1, q116_2, q116_5, q116_6, q116_7, q116_10, q116_11, q116_12, q116_15, q116_16, q116_19, q116_20, q116_21, q116_22, q116_26, q116_29, q116_32, q116_33, q116_36, q116_39, q116_40, q116_41, q116_44, q116_45, q116_48, q116_49, q116_52, q116_55, q116_56, q116_59, q116_60, q116_63, q116_64, q116_65, q116_68, q116_71, q116_72, q116_73, q116_76, q116_77, q116_78, q116_81, q116_82, q116_85, q116_86, q116_89, q116_90, q116_93, q116_94, q116_97, q116_100, q116_101, q116_104, q116_107, q116_109, q116_110, q116_113, q116_114, q116_115, q116_116, q116_119, q116_120, gF_1_0, gF_1_1, gF_1_2, gF_1_3, gF_1_4, gF_1_5, gF_1_6, gF_1_7, gF_1_8, gF_1_9, gF_2_0, gF_2_1, gF_2_2, gF_2_3, gF_2_4, gF_19_0, gF_19_1, gF_19_2, gF_19_3, gF_19_4, gF_19_5, gF_19_6, gF_19_7, gF_19_8, gF_19_9, gF_21_0, gF_21_1, gF_21_2, gF_45_0, gF_45_1, gF_45_2, gF_48_0, gF_48_1, gF_48_2, gF_48_3, gF_56_0, gF_56_1, gF_56_2, gF_56_3, gF_56_4, gF_56_5, gF_56_6, gF_56_7, gF_56_8, gF_56_9, gF_56_10, gF_56_11, gF_56_12, gF_56_13, gF_56_14, gF_56_15, gF_56_16, gF_56_17, gF_56_18, gF_56_19, gF_56_20, gF_56_21, gF_56_22, gF_56_23, gF_56_24, gF_56_25, gF_56_26, gF_Tu_0, gF_Tu_1, gF_Tu_2, gF_Tu_3, gF_Tu_4, gF_Tu_5, gF_Tu_6, gF_Tu_7, gF_Tu_8, gF_Tu_9, gF_Tu_10, gF_Tv_0, gF_Tv_1, gF_Tv_2, gF_Tv_3, gF_Tv_4, gF_Tv_5, gF_Tv_6, gF_Tv_7, gF_Tv_8, gF_Tv_9, gF_Tv_10, pF_1_1, pF_1_2, pF_1_9, pF_2_0, pF_2_3, pF_2_4, pF_19_0, pF_19_1, pF_19_2, pF_19_3, pF_19_4, pF_19_5, pF_19_6, pF_19_7, pF_19_8, pF_21_0, pF_21_1, pF_45_0, pF_48_3, pF_56_0, pF_56_1, pF_56_3, pF_56_4, pF_56_5, pF_56_6, pF_56_7, pF_56_8, pF_56_10, pF_56_21, pF_56_24, pF_Tu_0, pF_Tu_1, pF_Tu_2, pF_Tu_3, pF_Tu_4, pF_Tv_0, pF_Tv_1, pF_Tv_2, pF_Tv_3, pF_Tv_4, gA_3, gA_4, gA_20, gZ_44, gA_46, gA_47, gA_49, gA_50, gA_51, gA_57, gA_58, gA_59, gA_60, gA_61, gA_62, gA_63, gA_64, gA_65, gA_66, gZ_67, gA_68, gA_69, gA_70, gA_71, gA_72, gA_Tu1, gA_Tu2, gA_Tu3, gA_Tu4, gA_Tu5, gA_Tu6, gA_Tv1, gA_Tv2, gA_Tv3, gA_Tv4, gA_Tv5, gA_Tv6, gQ_22, gQ_43, gL_0, gA_0, pA_3, pA_4, pA_20, pZ_44, pA_46, pA_47, pA_49, pA_50, pA_51, pA_57, pA_58, pA_59, pA_60, pA_61, pA_62, pA_63, pA_64, pA_65, pA_66, pZ_67, pA_68, pA_69, pA_70, pA_71, pA_72, pA_Tu1, pA_Tu2, pA_Tu3, pA_Tu4, pA_Tu5, pA_Tu6, pA_Tv1, pA_Tv2, pA_Tv3, pA_Tv4, pA_Tv5, pA_Tv6, rc_1, rc_2, rc_19, rc_21, rc_45, rc_48, rc_56, rc_Tu, rc_Tv, ↓reduceIte, m31_0, m31_1, m31_2, m31_3, m31_4, m31_5, m31_6, m31_7, m31_8, m31_9, m31_10, m31_11, m31_12, m31_13,  Tk_19, Tk_21, Tk_2, rbI_19, rbI_T, rbF_20, rbF_T1, rbF_T2, rbF_T4, Nat.add_left_cancel_iff, ne_eq, bd_s, rc_2, rc_19, rc_21, rc_45, rc_48, rc_56, rc_Tu, rc_Tv, vB_0, tc_0, tc_1, tc_2, tc_3, tc_4, tc_5, tc_6, tc_7, tc_8, tc_9, tc_10, tc_11, tc_12, tc_13, tc_14, if_true, if_false, up_s, ud_s, ud_n, up_n, bx_uu, Int32.reduceLT, Int32.reduceAdd, Int32.reduceSub, Int32.reduceMul, z00, z11, pl_i, if_bN, if_bI, bI_0, ite_not, pv_s, pv_n, rc_19, rc_1, true_and, and_true, not_true_eq_false, not_false_eq_true, y_isWell, a, bI_t w1, bI_f w2, g5, hm, ht, o0, nI_1]
  · have g5 : ¬ X 5 = 1 := by
      rw [d1]
      exact fun z => g1 (nI_inj (j := 1) (by omega) (by decide) z)
    by_cases g : X 5 = 3
    · set_option maxRecDepth 100000 in simp (config := { decide := true }) only [q116_0, q116_1, q116_2, q116_5, q116_6, q116_7, q116_10, q116_11, q116_12, q116_15, q116_16, q116_19, q116_20, q116_21, q116_22, q116_26, q116_29, q116_32, q116_33, q116_36, q116_39, q116_40, q116_41, q116_44, q116_45, q116_48, q116_49, q116_52, q116_55, q116_56, q116_59, q116_60, q116_63, q116_64, q116_65, q116_68, q116_71, q116_72, q116_73, q116_76, q116_77, q116_78, q116_81, q116_82, q116_85, q116_86, q116_89, q116_90, q116_93, q116_94, q116_97, q116_100, q116_101, q116_104, q116_107, q116_109, q116_110, q116_113, q116_114, q116_115, q116_116, q116_119, q116_120, gF_1_0, gF_1_1, gF_1_2, gF_1_3, gF_1_4, gF_1_5, gF_1_6, gF_1_7, gF_1_8, gF_1_9, gF_2_0, gF_2_1, gF_2_2, gF_2_3, gF_2_4, gF_19_0, gF_19_1, gF_19_2, gF_19_3, gF_19_4, gF_19_5, gF_19_6, gF_19_7, gF_19_8, gF_19_9, gF_21_0, gF_21_1, gF_21_2, gF_45_0, gF_45_1, gF_45_2, gF_48_0, gF_48_1, gF_48_2, gF_48_3, gF_56_0, gF_56_1, gF_56_2, gF_56_3, gF_56_4, gF_56_5, gF_56_6, gF_56_7, gF_56_8, gF_56_9, gF_56_10, gF_56_11, gF_56_12, gF_56_13, gF_56_14, gF_56_15, gF_56_16, gF_56_17, gF_56_18, gF_56_19, gF_56_20, gF_56_21, gF_56_22, gF_56_23, gF_56_24, gF_56_25, gF_56_26, gF_Tu_0, gF_Tu_1, gF_Tu_2, gF_Tu_3, gF_Tu_4, gF_Tu_5, gF_Tu_6, gF_Tu_7, gF_Tu_8, gF_Tu_9, gF_Tu_10, gF_Tv_0, gF_Tv_1, gF_Tv_2, gF_Tv_3, gF_Tv_4, gF_Tv_5, gF_Tv_6, gF_Tv_7, gF_Tv_8, gF_Tv_9, gF_Tv_10, pF_1_1, pF_1_2, pF_1_9, pF_2_0, pF_2_3, pF_2_4, pF_19_0, pF_19_1, pF_19_2, pF_19_3, pF_19_4, pF_19_5, pF_19_6, pF_19_7, pF_19_8, pF_21_0, pF_21_1, pF_45_0, pF_48_3, pF_56_0, pF_56_1, pF_56_3, pF_56_4, pF_56_5, pF_56_6, pF_56_7, pF_56_8, pF_56_10, pF_56_21, pF_56_24, pF_Tu_0, pF_Tu_1, pF_Tu_2, pF_Tu_3, pF_Tu_4, pF_Tv_0, pF_Tv_1, pF_Tv_2, pF_Tv_3, pF_Tv_4, gA_3, gA_4, gA_20, gZ_44, gA_46, gA_47, gA_49, gA_50, gA_51, gA_57, gA_58, gA_59, gA_60, gA_61, gA_62, gA_63, gA_64, gA_65, gA_66, gZ_67, gA_68, gA_69, gA_70, gA_71, gA_72, gA_Tu1, gA_Tu2, gA_Tu3, gA_Tu4, gA_Tu5, gA_Tu6, gA_Tv1, gA_Tv2, gA_Tv3, gA_Tv4, gA_Tv5, gA_Tv6, gQ_22, gQ_43, gL_0, gA_0, pA_3, pA_4, pA_20, pZ_44, pA_46, pA_47, pA_49, pA_50, pA_51, pA_57, pA_58, pA_59, pA_60, pA_61, pA_62, pA_63, pA_64, pA_65, pA_66, pZ_67, pA_68, pA_69, pA_70, pA_71, pA_72, pA_Tu1, pA_Tu2, pA_Tu3, pA_Tu4, pA_Tu5, pA_Tu6, pA_Tv1, pA_Tv2, pA_Tv3, pA_Tv4, pA_Tv5, pA_Tv6, rc_1, rc_2, rc_19, rc_21, rc_45, rc_48, rc_56, rc_Tu, rc_Tv, ↓reduceIte, m31_0, m31_1, m31_2, m31_3, m31_4, m31_5, m31_6, m31_7, m31_8, m31_9, m31_10, m31_11, m31_12, m31_13,  Tk_19, Tk_21, Tk_2, rbI_19, rbI_T, rbF_20, rbF_T1, rbF_T2, rbF_T4, Nat.add_left_cancel_iff, ne_eq, bd_s, rc_2, rc_19, rc_21, rc_45, rc_48, rc_56, rc_Tu, rc_Tv, vB_0, tc_0, tc_1, tc_2, tc_3, tc_4, tc_5, tc_6, tc_7, tc_8, tc_9, tc_10, tc_11, tc_12, tc_13, tc_14, if_true, if_false, up_s, ud_s, ud_n, up_n, bx_uu, Int32.reduceLT, Int32.reduceAdd, Int32.reduceSub, Int32.reduceMul, z00, z11, pl_i, if_bN, if_bI, bI_0, ite_not, pv_s, pv_n, rc_19, rc_1, true_and, and_true, not_true_eq_false, not_false_eq_true, y_isWell, a, bI_t w1, bI_f w2, g0, g5, g, ht, o0, o1, nI_1]
    · set_option maxRecDepth 100000 in simp (config := { decide := true }) only [q116_0, q116_1, q116_2, q116_5, q116_6, q116_7, q116_10, q116_11, q116_12, q116_15, q116_16, q116_19, q116_20, q116_21, q116_22, q116_26, q116_29, q116_32, q116_33, q116_36, q116_39, q116_40, q116_41, q116_44, q116_45, q116_48, q116_49, q116_52, q116_55, q116_56, q116_59, q116_60, q116_63, q116_64, q116_65, q116_68, q116_71, q116_72, q116_73, q116_76, q116_77, q116_78, q116_81, q116_82, q116_85, q116_86, q116_89, q116_90, q116_93, q116_94, q116_97, q116_100, q116_101, q116_104, q116_107, q116_109, q116_110, q116_113, q116_114, q116_115, q116_116, q116_119, q116_120, gF_1_0, gF_1_1, gF_1_2, gF_1_3, gF_1_4, gF_1_5, gF_1_6, gF_1_7, gF_1_8, gF_1_9, gF_2_0, gF_2_1, gF_2_2, gF_2_3, gF_2_4, gF_19_0, gF_19_1, gF_19_2, gF_19_3, gF_19_4, gF_19_5, gF_19_6, gF_19_7, gF_19_8, gF_19_9, gF_21_0, gF_21_1, gF_21_2, gF_45_0, gF_45_1, gF_45_2, gF_48_0, gF_48_1, gF_48_2, gF_48_3, gF_56_0, gF_56_1, gF_56_2, gF_56_3, gF_56_4, gF_56_5, gF_56_6, gF_56_7, gF_56_8, gF_56_9, gF_56_10, gF_56_11, gF_56_12, gF_56_13, gF_56_14, gF_56_15, gF_56_16, gF_56_17, gF_56_18, gF_56_19, gF_56_20, gF_56_21, gF_56_22, gF_56_23, gF_56_24, gF_56_25, gF_56_26, gF_Tu_0, gF_Tu_1, gF_Tu_2, gF_Tu_3, gF_Tu_4, gF_Tu_5, gF_Tu_6, gF_Tu_7, gF_Tu_8, gF_Tu_9, gF_Tu_10, gF_Tv_0, gF_Tv_1, gF_Tv_2, gF_Tv_3, gF_Tv_4, gF_Tv_5, gF_Tv_6, gF_Tv_7, gF_Tv_8, gF_Tv_9, gF_Tv_10, pF_1_1, pF_1_2, pF_1_9, pF_2_0, pF_2_3, pF_2_4, pF_19_0, pF_19_1, pF_19_2, pF_19_3, pF_19_4, pF_19_5, pF_19_6, pF_19_7, pF_19_8, pF_21_0, pF_21_1, pF_45_0, pF_48_3, pF_56_0, pF_56_1, pF_56_3, pF_56_4, pF_56_5, pF_56_6, pF_56_7, pF_56_8, pF_56_10, pF_56_21, pF_56_24, pF_Tu_0, pF_Tu_1, pF_Tu_2, pF_Tu_3, pF_Tu_4, pF_Tv_0, pF_Tv_1, pF_Tv_2, pF_Tv_3, pF_Tv_4, gA_3, gA_4, gA_20, gZ_44, gA_46, gA_47, gA_49, gA_50, gA_51, gA_57, gA_58, gA_59, gA_60, gA_61, gA_62, gA_63, gA_64, gA_65, gA_66, gZ_67, gA_68, gA_69, gA_70, gA_71, gA_72, gA_Tu1, gA_Tu2, gA_Tu3, gA_Tu4, gA_Tu5, gA_Tu6, gA_Tv1, gA_Tv2, gA_Tv3, gA_Tv4, gA_Tv5, gA_Tv6, gQ_22, gQ_43, gL_0, gA_0, pA_3, pA_4, pA_20, pZ_44, pA_46, pA_47, pA_49, pA_50, pA_51, pA_57, pA_58, pA_59, pA_60, pA_61, pA_62, pA_63, pA_64, pA_65, pA_66, pZ_67, pA_68, pA_69, pA_70, pA_71, pA_72, pA_Tu1, pA_Tu2, pA_Tu3, pA_Tu4, pA_Tu5, pA_Tu6, pA_Tv1, pA_Tv2, pA_Tv3, pA_Tv4, pA_Tv5, pA_Tv6, rc_1, rc_2, rc_19, rc_21, rc_45, rc_48, rc_56, rc_Tu, rc_Tv, ↓reduceIte, m31_0, m31_1, m31_2, m31_3, m31_4, m31_5, m31_6, m31_7, m31_8, m31_9, m31_10, m31_11, m31_12, m31_13,  Tk_19, Tk_21, Tk_2, rbI_19, rbI_T, rbF_20, rbF_T1, rbF_T2, rbF_T4, Nat.add_left_cancel_iff, ne_eq, bd_s, rc_2, rc_19, rc_21, rc_45, rc_48, rc_56, rc_Tu, rc_Tv, vB_0, tc_0, tc_1, tc_2, tc_3, tc_4, tc_5, tc_6, tc_7, tc_8, tc_9, tc_10, tc_11, tc_12, tc_13, tc_14, if_true, if_false, up_s, ud_s, ud_n, up_n, bx_uu, Int32.reduceLT, Int32.reduceAdd, Int32.reduceSub, Int32.reduceMul, z00, z11, pl_i, if_bN, if_bI, bI_0, ite_not, pv_s, pv_n, rc_19, rc_1, true_and, and_true, not_true_eq_false, not_false_eq_true, y_isWell, a, bI_t w1, bI_f w2, g0, g5, g, ht, o0, o1, nI_1]
end PR5
