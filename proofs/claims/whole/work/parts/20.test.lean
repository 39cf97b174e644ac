section T1
variable {L : Nat} {u v : Bool} {I F : Nat → Nat → Int32} {J : Nat → Int64}
set_option maxRecDepth 20000 in
theorem x_isOver : EX 87 0 [.ref 1] [] (mk L u v I F J) = some (mk L u v I F J, some (.int (if I 19 0 < I (Tk u) 0 then 0 else 1))) := by
  simp only [q87_0, q87_1, q87_4, q87_7, q87_8, q87_11, q87_14, q87_17, q87_18, q87_21, q87_22, gF_1_0, gF_1_1, gF_1_2, gF_1_3, gF_1_4, gF_1_5, gF_1_6, gF_1_7, gF_1_8, gF_1_9, gF_2_0, gF_2_1, gF_2_2, gF_2_3, gF_2_4, gF_19_0, gF_19_1, gF_19_2, gF_19_3, gF_19_4, gF_19_5, gF_19_6, gF_19_7, gF_19_8, gF_19_9, gF_21_0, gF_21_1, gF_21_2, gF_45_0, gF_45_1, gF_45_2, gF_48_0, gF_48_1, gF_48_2, gF_48_3, gF_56_0, gF_56_1, gF_56_2, gF_56_3, gF_56_4, gF_56_5, gF_56_6, gF_56_7, gF_56_8, gF_56_9, gF_56_10, gF_56_11, gF_56_12, gF_56_13, gF_56_14, gF_56_15, gF_56_16, gF_56_17, gF_56_18, gF_56_19, gF_56_20, gF_56_21, gF_56_22, gF_56_23, gF_56_24, gF_56_25, gF_56_26, gF_Tu_0, gF_Tu_1, gF_Tu_2, gF_Tu_3, gF_Tu_4, gF_Tu_5, gF_Tu_6, gF_Tu_7, gF_Tu_8, gF_Tu_9, gF_Tu_10, gF_Tv_0, gF_Tv_1, gF_Tv_2, gF_Tv_3, gF_Tv_4, gF_Tv_5, gF_Tv_6, gF_Tv_7, gF_Tv_8, gF_Tv_9, gF_Tv_10, pF_1_1, pF_1_2, pF_1_9, pF_2_0, pF_2_3, pF_2_4, pF_19_0, pF_19_1, pF_19_2, pF_19_3, pF_19_4, pF_19_5, pF_19_6, pF_19_7, pF_19_8, pF_21_0, pF_21_1, pF_45_0, pF_48_3, pF_56_0, pF_56_1, pF_56_3, pF_56_4, pF_56_5, pF_56_6, pF_56_7, pF_56_8, pF_56_10, pF_56_21, pF_56_24, pF_Tu_0, pF_Tu_1, pF_Tu_2, pF_Tu_3, pF_Tu_4, pF_Tv_0, pF_Tv_1, pF_Tv_2, pF_Tv_3, pF_Tv_4, gA_3, gA_4, gA_20, gZ_44, gA_46, gA_47, gA_49, gA_50, gA_51, gA_57, gA_58, gA_59, gA_60, gA_61, gA_62, gA_63, gA_64, gA_65, gA_66, gZ_67, gA_68, gA_69, gA_70, gA_71, gA_72, gA_Tu1, gA_Tu2, gA_Tu3, gA_Tu4, gA_Tu5, gA_Tu6, gA_Tv1, gA_Tv2, gA_Tv3, gA_Tv4, gA_Tv5, gA_Tv6, gQ_22, gQ_43, gL_0, gA_0, pA_3, pA_4, pA_20, pZ_44, pA_46, pA_47, pA_49, pA_50, pA_51, pA_57, pA_58, pA_59, pA_60, pA_61, pA_62, pA_63, pA_64, pA_65, pA_66, pZ_67, pA_68, pA_69, pA_70, pA_71, pA_72, pA_Tu1, pA_Tu2, pA_Tu3, pA_Tu4, pA_Tu5, pA_Tu6, pA_Tv1, pA_Tv2, pA_Tv3, pA_Tv4, pA_Tv5, pA_Tv6, rc_1, rc_2, rc_19, rc_21, rc_45, rc_48, rc_56, rc_Tu, rc_Tv, Option.bind_some]
  by_cases h : I 19 0 < I (Tk u) 0
  · simp only [h, if_true]
    trace_state
    decide
  · simp only [h, if_false]
    trace_state
    decide
theorem x_within {h : List Cel} {x y z : Int32} : EX 82 0 [.int x, .int y, .int z] [] h = some (h, some (.int (if x < y then 0 else if z < x then 0 else 1))) := by
  simp only [q82_0, q82_1, q82_2, q82_5, q82_6, q82_7, q82_10, q82_11, q82_14, q82_15, Option.bind_some]
  trace_state
  sorry
end T1
