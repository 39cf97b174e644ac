section M14
variable {L : Nat} {u v : Bool} {I F I' F' : Nat → Nat → Int32} {J J' : Nat → Int64} {D : Nat} {s : (Nat → Nat) × (Nat → Nat → Nat)}
theorem cbP_c {a b a' b' : Nat → Int32} {m : Nat} (h : ∀ j, j < m → a j = a' j ∧ b j = b' j) : cbP a b m = cbP a' b' m := by
  have : ∀ c n, n ≤ m → cbB a b c n = cbB a' b' c n := by
    intro c n
    induction n with
    | zero => intro _; rfl
    | succ n ih =>
      intro hn
      rw [cbB, cbB, ih (by omega), (h n (by omega)).1, (h n (by omega)).2]
  funext c
  unfold cbP
  exact this _ m (Nat.le_refl _)
theorem an_n : ∀ a, a < 32 → ∀ b, b < 32 → nI a &&& nI b = nI (a &&& b) ∧ a &&& b < 32 := by
  have h : ∀ a b : Fin 32, nI a.val &&& nI b.val = nI (a.val &&& b.val) ∧ a.val &&& b.val < 32 := by decide +kernel
  exact fun a ha b hb => h ⟨a, ha⟩ ⟨b, hb⟩
theorem an_d : ∀ k, k < 6 → ∀ n, n < 2 ^ k → nI (2 ^ k - 1) &&& nI n = nI n := by
  have h : ∀ k : Fin 6, ∀ n : Fin 32, n.val < 2 ^ k.val → nI (2 ^ k.val - 1) &&& nI n.val = nI n.val := by decide +kernel
  intro k hk n hn
  have : 2 ^ k ≤ 2 ^ 5 := Nat.pow_le_pow_right (by decide) (by omega)
  exact h ⟨k, hk⟩ ⟨n, by omega⟩ hn
theorem n9_n {j : Nat} (hj : j < 1000) : ¬ nI j = -9 := fun z => by
  have h : (0 : Int32) ≤ nI j := nI_pos' (by omega)
  rw [z] at h
  exact absurd h (by decide)
theorem on_b : ∀ c, c < 64 → onI (nI c) = nI (pcN c) ∧ pcN c ≤ 6 := on_pc
/-- who can cheat: both ways of telling it -/
theorem ch_inv {p : Nat → Bool} {k : Nat} (hk : k < 6) : ∀ n, n ≤ 2 ^ k →
  (alA p n = -9 ∧ alM (nI (2 ^ k - 1)) p n = nI (2 ^ k - 1) ∧ fwA p n = -9 ∧ fwM p n = 1000000 ∧ cnI p n = 0) ∨
  ((∃ j, j < 32 ∧ alA p n = nI j ∧ alM (nI (2 ^ k - 1)) p n = nI j) ∧ (∃ j, j < 32 ∧ fwA p n = nI j ∧ fwM p n = nI j) ∧ ∃ m, 1 ≤ m ∧ m ≤ n ∧ cnI p n = nI m) := by
  have h32 : 2 ^ k ≤ 2 ^ 5 := Nat.pow_le_pow_right (by decide) (by omega)
  intro n
  induction n with
  | zero => exact fun _ => Or.inl ⟨rfl, rfl, rfl, rfl, rfl⟩
  | succ n ih =>
    intro hn
    have hb := bc_on n (by omega)
    obtain ⟨o1, o2⟩ := on_b n (by omega)
    rw [alA, alM, fwA, fwM, cnI]
    by_cases g : p n = true
    · rw [if_pos g, if_pos g, if_pos g, if_pos g, if_pos g]
      refine Or.inr ?_
      rcases ih (by omega) with ⟨a1, a2, a3, a4, a5⟩ | ⟨⟨j, j1, j2, j3⟩, ⟨i, i1, i2, i3⟩, m, m1, m2, m3⟩
      · rw [a1, a2, a3, a4, a5, if_pos rfl, if_pos rfl, an_d k hk n (by omega), hb, o1, if_pos (show nI (pcN n) < 1000000 from lt_n (n := 1000000) (by omega) (by decide))]
        exact ⟨⟨n, by omega, rfl, rfl⟩, ⟨pcN n, by omega, rfl, rfl⟩, 1, by omega, by omega, rfl⟩
      · rw [j2, j3, i2, i3, m3, if_neg (n9_n (by omega)), if_neg (n9_n (by omega)), hb, o1, nI_1]
        refine ⟨⟨j &&& n, (an_n j j1 n (by omega)).2, (an_n j j1 n (by omega)).1, (an_n j j1 n (by omega)).1⟩, ?_, m + 1, by omega, by omega, rfl⟩
        by_cases g2 : nI (pcN n) < nI i
        · rw [if_pos g2]
          exact ⟨pcN n, by omega, rfl, rfl⟩
        · rw [if_neg g2]
          exact ⟨i, i1, rfl, rfl⟩
    · rw [if_neg g, if_neg g, if_neg g, if_neg g, if_neg g]
      rcases ih (by omega) with a | ⟨a, b, m, m1, m2, m3⟩
      · exact Or.inl a
      · exact Or.inr ⟨a, b, m, m1, by omega, m3⟩
theorem cn_le {p r : Nat → Bool} : ∀ n, ∃ a b, a ≤ b ∧ b ≤ n ∧ cnI (fun c => r c && p c) n = nI a ∧ cnI p n = nI b
  | 0 => ⟨0, 0, by omega, by omega, rfl, rfl⟩
  | n + 1 => by
    obtain ⟨a, b, h1, h2, h3, h4⟩ := cn_le (p := p) (r := r) n
    rw [cnI, cnI, h3, h4]
    by_cases g : p n = true
    · by_cases g2 : r n = true
      · rw [if_pos (by rw [g, g2]; rfl), if_pos g, nI_1, nI_1]
        exact ⟨a + 1, b + 1, by omega, by omega, rfl, rfl⟩
      · rw [if_neg (by rw [Bool.and_eq_true]; exact fun z => g2 z.1), if_pos g, nI_1]
        exact ⟨a, b + 1, by omega, by omega, rfl, rfl⟩
    · rw [if_neg (by rw [Bool.and_eq_true]; exact fun z => g z.2), if_neg g]
      exact ⟨a, b, h1, by omega, rfl, rfl⟩
theorem gr_le {p : Nat → Bool} {N t : Nat} (hN : N ≤ 32) : ∃ g b, g ≤ b ∧ b ≤ N ∧ grI p (cnI p N) N t = nI g ∧ cnI p N = nI b := by
  obtain ⟨a, b, h1, h2, h3, h4⟩ := cn_le (p := p) (r := fun c => !decide (nI c &&& nI t = 0)) N
  unfold grI mxI
  rw [h3, h4, pk_sub h1]
  split
  · exact ⟨b - a, b, by omega, h2, rfl, rfl⟩
  · exact ⟨a, b, h1, h2, rfl, rfl⟩
theorem bt_eq {p : Nat → Bool} {N : Nat} {l l' : Int32} (h : grI p (cnI p N) N 1 < l) (h' : grI p (cnI p N) N 1 < l') : ∀ n, btI p (cnI p N) N l (n + 1) = btI p (cnI p N) N l' (n + 1)
  | 0 => by
    rw [btI, btI, btI, btI, if_pos h, if_pos h']
  | n + 1 => by
    rw [btI, bt_eq h h' n, btI.eq_2 p (cnI p N) N l' (n + 1)]
theorem mc_cheats (hR : R u I F J) {n : Int32} : MC L u I F J 72 146 [.ref 1, .int n, .float 0] [.ref 56, .int n, .float 0, .float 0, .float 0, .float 0] := by
  obtain ⟨s, r1, r2, hB, r4, r5, ⟨m, m1, m2, m3, m4⟩, r7⟩ := id hR
  have hk := Tk_5 u
  have hG := r2.2.1.1
  have h32 : 2 ^ s.1 3 ≤ 2 ^ 5 := Nat.pow_le_pow_right (by decide) (by omega)
  have h2 : 2 ^ 1 ≤ 2 ^ s.1 3 := Nat.pow_le_pow_right (by decide) (by omega)
  have hs : (1 : Int32) <<< (I (Tk u) 3 &&& 31) = nI (2 ^ s.1 3) := by rw [r2.1.1.2.2.2.1]; exact shl_n _ (by omega)
  have hs2 : (1 : Int32) <<< (F 58 2 &&& 31) - 1 = nI (2 ^ s.1 3 - 1) := by rw [r2.2.2.1.2.2.2, shl_n _ (by omega), show (1 : Int32) = nI 1 from rfl, pk_sub (by omega)]
  have hp := cbP_c m4
  by_cases hn : inB n 0 2
  · have hm := y_cheats (L := L) (u := u) (v := !u) (I := I) (F := F) (J := J) m2 m3 (M := 2 ^ s.1 3 - 1) (by omega) hs2 hn
    rw [show 2 ^ s.1 3 - 1 + 1 = 2 ^ s.1 3 by omega, ← hp] at hm
    have x0 := x_possible (L := L) (u := u) (v := !u) (I := I) (F := F) (J := J) m1 m3 (N := 2 ^ s.1 3) (by omega)
    have x1 := x_inAll (L := L) (u := u) (v := !u) (I := I) (F := F) (J := J) m1 m3 (N := 2 ^ s.1 3) (by omega)
    have x2 := x_fewest (L := L) (u := u) (v := !u) (I := I) (F := F) (J := J) m1 m3 (N := 2 ^ s.1 3) (by omega)
    have hc := ch_inv (p := cbP (F 46) (F 47) m) (k := s.1 3) (by omega) (2 ^ s.1 3) (Nat.le_refl _)
    by_cases n0 : n = 0
    · subst n0
      refine MC_q (r := .int (cnI (cbP (F 46) (F 47) m) (2 ^ s.1 3))) ?_ ?_ hR
      · set_option maxRecDepth 100000 in simp (config := { decide := true }) only [q72_0, q72_1, q72_2, q72_3, q72_6, q72_9, q72_10, q72_11, q72_12, q72_15, q72_18, q72_19, q72_20, q72_23, q72_24, q72_27, q72_28, q72_31, q72_32, q72_33, q72_34, q72_37, q72_38, q72_41, q72_42, q72_45, q72_48, q72_49, q72_52, q72_53, q72_56, gF_1_0, gF_1_1, gF_1_2, gF_1_3, gF_1_4, gF_1_5, gF_1_6, gF_1_7, gF_1_8, gF_1_9, gF_2_0, gF_2_1, gF_2_2, gF_2_3, gF_2_4, gF_19_0, gF_19_1, gF_19_2, gF_19_3, gF_19_4, gF_19_5, gF_19_6, gF_19_7, gF_19_8, gF_19_9, gF_21_0, gF_21_1, gF_21_2, gF_45_0, gF_45_1, gF_45_2, gF_48_0, gF_48_1, gF_48_2, gF_48_3, gF_56_0, gF_56_1, gF_56_2, gF_56_3, gF_56_4, gF_56_5, gF_56_6, gF_56_7, gF_56_8, gF_56_9, gF_56_10, gF_56_11, gF_56_12, gF_56_13, gF_56_14, gF_56_15, gF_56_16, gF_56_17, gF_56_18, gF_56_19, gF_56_20, gF_56_21, gF_56_22, gF_56_23, gF_56_24, gF_56_25, gF_56_26, gF_Tu_0, gF_Tu_1, gF_Tu_2, gF_Tu_3, gF_Tu_4, gF_Tu_5, gF_Tu_6, gF_Tu_7, gF_Tu_8, gF_Tu_9, gF_Tu_10, gF_Tv_0, gF_Tv_1, gF_Tv_2, gF_Tv_3, gF_Tv_4, gF_Tv_5, gF_Tv_6, gF_Tv_7, gF_Tv_8, gF_Tv_9, gF_Tv_10, pF_1_1, pF_1_2, pF_1_9, pF_2_0, pF_2_3, pF_2_4, pF_19_0, pF_19_1, pF_19_2, pF_19_3, pF_19_4, pF_19_5, pF_19_6, pF_19_7, pF_19_8, pF_21_0, pF_21_1, pF_45_0, pF_48_3, pF_56_0, pF_56_1, pF_56_3, pF_56_4, pF_56_5, pF_56_6, pF_56_7, pF_56_8, pF_56_10, pF_56_21, pF_56_24, pF_Tu_0, pF_Tu_1, pF_Tu_2, pF_Tu_3, pF_Tu_4, pF_Tv_0, pF_Tv_1, pF_Tv_2, pF_Tv_3, pF_Tv_4, gA_3, gA_4, gA_20, gZ_44, gA_46, gA_47, gA_49, gA_50, gA_51, gA_57, gA_58, gA_59, gA_60, gA_61, gA_62, gA_63, gA_64, gA_65, gA_66, gZ_67, gA_68, gA_69, gA_70, gA_71, gA_72, gA_Tu1, gA_Tu2, gA_Tu3, gA_Tu4, gA_Tu5, gA_Tu6, gA_Tv1, gA_Tv2, gA_Tv3, gA_Tv4, gA_Tv5, gA_Tv6, gQ_22, gQ_43, gL_0, gA_0, pA_3, pA_4, pA_20, pZ_44, pA_46, pA_47, pA_49, pA_50, pA_51, pA_57, pA_58, pA_59, pA_60, pA_61, pA_62, pA_63, pA_64, pA_65, pA_66, pZ_67, pA_68, pA_69, pA_70, pA_71, pA_72, pA_Tu1, pA_Tu2, pA_Tu3, pA_Tu4, pA_Tu5, pA_Tu6, pA_Tv1, pA_Tv2, pA_Tv3, pA_Tv4, pA_Tv5, pA_Tv6, rc_1, rc_2, rc_19, rc_21, rc_45, rc_48, rc_56, rc_Tu, rc_Tv, ↓reduceIte, m31_0, m31_1, m31_2, m31_3, m31_4, m31_5, m31_6, m31_7, m31_8, m31_9, m31_10, m31_11, m31_12, m31_13,  Tk_19, Tk_21, Tk_2, rbI_19, rbI_T, rbF_20, rbF_T1, rbF_T2, rbF_T4, Nat.add_left_cancel_iff, ne_eq, x_within, x_isDay, x_isWork, x_isOver, x_hoursOf, x_warmthOf, x_dueOf, x_poundsOf, x_worthOf, x_claimOf, x_allFresh, x_held, x_strokes, x_need, x_come, x_takeFresh, x_feed, x_sleep, x_sets, x_canBeFed, x_isFed, bd_s, rc_2, rc_19, rc_21, rc_45, rc_48, rc_56, rc_Tu, rc_Tv, vB_0, tc_0, tc_1, tc_2, tc_3, tc_4, tc_5, tc_6, tc_7, tc_8, tc_9, tc_10, tc_11, tc_12, tc_13, tc_14, if_true, if_false, up_s, ud_s, ud_n, up_n, bx_uu, Int32.reduceLT, Int32.reduceAdd, Int32.reduceSub, Int32.reduceMul, z00, z11, pl_i, if_bN, if_bI, bI_0, ite_not, pv_s, pv_n, rc_19, rc_1, true_and, and_true, not_true_eq_false, not_false_eq_true, eq_true hn, bI_T, hs, x0]
      · rw [if_pos rfl] at hm
        exact hm
    · by_cases n1 : n = 1
      · subst n1
        refine MC_q (r := .int (alA (cbP (F 46) (F 47) m) (2 ^ s.1 3))) ?_ ?_ hR
        · set_option maxRecDepth 100000 in simp (config := { decide := true }) only [q72_0, q72_1, q72_2, q72_3, q72_6, q72_9, q72_10, q72_11, q72_12, q72_15, q72_18, q72_19, q72_20, q72_23, q72_24, q72_27, q72_28, q72_31, q72_32, q72_33, q72_34, q72_37, q72_38, q72_41, q72_42, q72_45, q72_48, q72_49, q72_52, q72_53, q72_56, gF_1_0, gF_1_1, gF_1_2, gF_1_3, gF_1_4, gF_1_5, gF_1_6, gF_1_7, gF_1_8, gF_1_9, gF_2_0, gF_2_1, gF_2_2, gF_2_3, gF_2_4, gF_19_0, gF_19_1, gF_19_2, gF_19_3, gF_19_4, gF_19_5, gF_19_6, gF_19_7, gF_19_8, gF_19_9, gF_21_0, gF_21_1, gF_21_2, gF_45_0, gF_45_1, gF_45_2, gF_48_0, gF_48_1, gF_48_2, gF_48_3, gF_56_0, gF_56_1, gF_56_2, gF_56_3, gF_56_4, gF_56_5, gF_56_6, gF_56_7, gF_56_8, gF_56_9, gF_56_10, gF_56_11, gF_56_12, gF_56_13, gF_56_14, gF_56_15, gF_56_16, gF_56_17, gF_56_18, gF_56_19, gF_56_20, gF_56_21, gF_56_22, gF_56_23, gF_56_24, gF_56_25, gF_56_26, gF_Tu_0, gF_Tu_1, gF_Tu_2, gF_Tu_3, gF_Tu_4, gF_Tu_5, gF_Tu_6, gF_Tu_7, gF_Tu_8, gF_Tu_9, gF_Tu_10, gF_Tv_0, gF_Tv_1, gF_Tv_2, gF_Tv_3, gF_Tv_4, gF_Tv_5, gF_Tv_6, gF_Tv_7, gF_Tv_8, gF_Tv_9, gF_Tv_10, pF_1_1, pF_1_2, pF_1_9, pF_2_0, pF_2_3, pF_2_4, pF_19_0, pF_19_1, pF_19_2, pF_19_3, pF_19_4, pF_19_5, pF_19_6, pF_19_7, pF_19_8, pF_21_0, pF_21_1, pF_45_0, pF_48_3, pF_56_0, pF_56_1, pF_56_3, pF_56_4, pF_56_5, pF_56_6, pF_56_7, pF_56_8, pF_56_10, pF_56_21, pF_56_24, pF_Tu_0, pF_Tu_1, pF_Tu_2, pF_Tu_3, pF_Tu_4, pF_Tv_0, pF_Tv_1, pF_Tv_2, pF_Tv_3, pF_Tv_4, gA_3, gA_4, gA_20, gZ_44, gA_46, gA_47, gA_49, gA_50, gA_51, gA_57, gA_58, gA_59, gA_60, gA_61, gA_62, gA_63, gA_64, gA_65, gA_66, gZ_67, gA_68, gA_69, gA_70, gA_71, gA_72, gA_Tu1, gA_Tu2, gA_Tu3, gA_Tu4, gA_Tu5, gA_Tu6, gA_Tv1, gA_Tv2, gA_Tv3, gA_Tv4, gA_Tv5, gA_Tv6, gQ_22, gQ_43, gL_0, gA_0, pA_3, pA_4, pA_20, pZ_44, pA_46, pA_47, pA_49, pA_50, pA_51, pA_57, pA_58, pA_59, pA_60, pA_61, pA_62, pA_63, pA_64, pA_65, pA_66, pZ_67, pA_68, pA_69, pA_70, pA_71, pA_72, pA_Tu1, pA_Tu2, pA_Tu3, pA_Tu4, pA_Tu5, pA_Tu6, pA_Tv1, pA_Tv2, pA_Tv3, pA_Tv4, pA_Tv5, pA_Tv6, rc_1, rc_2, rc_19, rc_21, rc_45, rc_48, rc_56, rc_Tu, rc_Tv, ↓reduceIte, m31_0, m31_1, m31_2, m31_3, m31_4, m31_5, m31_6, m31_7, m31_8, m31_9, m31_10, m31_11, m31_12, m31_13,  Tk_19, Tk_21, Tk_2, rbI_19, rbI_T, rbF_20, rbF_T1, rbF_T2, rbF_T4, Nat.add_left_cancel_iff, ne_eq, x_within, x_isDay, x_isWork, x_isOver, x_hoursOf, x_warmthOf, x_dueOf, x_poundsOf, x_worthOf, x_claimOf, x_allFresh, x_held, x_strokes, x_need, x_come, x_takeFresh, x_feed, x_sleep, x_sets, x_canBeFed, x_isFed, bd_s, rc_2, rc_19, rc_21, rc_45, rc_48, rc_56, rc_Tu, rc_Tv, vB_0, tc_0, tc_1, tc_2, tc_3, tc_4, tc_5, tc_6, tc_7, tc_8, tc_9, tc_10, tc_11, tc_12, tc_13, tc_14, if_true, if_false, up_s, ud_s, ud_n, up_n, bx_uu, Int32.reduceLT, Int32.reduceAdd, Int32.reduceSub, Int32.reduceMul, z00, z11, pl_i, if_bN, if_bI, bI_0, ite_not, pv_s, pv_n, rc_19, rc_1, true_and, and_true, not_true_eq_false, not_false_eq_true, eq_true hn, bI_T, hs, x1]
        · rw [if_neg n0, if_pos rfl] at hm
          rcases hc with ⟨a1, a2, a3, a4, a5⟩ | ⟨⟨j, j1, j2, j3⟩, b, w, w1, w2, w3⟩
          · rw [if_pos a5] at hm
            rw [a1]
            exact hm
          · rw [if_neg (by rw [w3]; exact nI_ne0 (by omega) (by omega)), j3] at hm
            rw [j2]
            exact hm
      · have n2 : n = 2 := by
          obtain ⟨i, hi, e⟩ := inB_of (k := 2) (by decide) hn
          rcases (by omega : i = 0 ∨ i = 1 ∨ i = 2) with h | h | h
          · exact absurd (by rw [e, h]; rfl) n0
          · exact absurd (by rw [e, h]; rfl) n1
          · rw [e, h]; rfl
        subst n2
        refine MC_q (r := .int (fwA (cbP (F 46) (F 47) m) (2 ^ s.1 3))) ?_ ?_ hR
        · set_option maxRecDepth 100000 in simp (config := { decide := true }) only [q72_0, q72_1, q72_2, q72_3, q72_6, q72_9, q72_10, q72_11, q72_12, q72_15, q72_18, q72_19, q72_20, q72_23, q72_24, q72_27, q72_28, q72_31, q72_32, q72_33, q72_34, q72_37, q72_38, q72_41, q72_42, q72_45, q72_48, q72_49, q72_52, q72_53, q72_56, gF_1_0, gF_1_1, gF_1_2, gF_1_3, gF_1_4, gF_1_5, gF_1_6, gF_1_7, gF_1_8, gF_1_9, gF_2_0, gF_2_1, gF_2_2, gF_2_3, gF_2_4, gF_19_0, gF_19_1, gF_19_2, gF_19_3, gF_19_4, gF_19_5, gF_19_6, gF_19_7, gF_19_8, gF_19_9, gF_21_0, gF_21_1, gF_21_2, gF_45_0, gF_45_1, gF_45_2, gF_48_0, gF_48_1, gF_48_2, gF_48_3, gF_56_0, gF_56_1, gF_56_2, gF_56_3, gF_56_4, gF_56_5, gF_56_6, gF_56_7, gF_56_8, gF_56_9, gF_56_10, gF_56_11, gF_56_12, gF_56_13, gF_56_14, gF_56_15, gF_56_16, gF_56_17, gF_56_18, gF_56_19, gF_56_20, gF_56_21, gF_56_22, gF_56_23, gF_56_24, gF_56_25, gF_56_26, gF_Tu_0, gF_Tu_1, gF_Tu_2, gF_Tu_3, gF_Tu_4, gF_Tu_5, gF_Tu_6, gF_Tu_7, gF_Tu_8, gF_Tu_9, gF_Tu_10, gF_Tv_0, gF_Tv_1, gF_Tv_2, gF_Tv_3, gF_Tv_4, gF_Tv_5, gF_Tv_6, gF_Tv_7, gF_Tv_8, gF_Tv_9, gF_Tv_10, pF_1_1, pF_1_2, pF_1_9, pF_2_0, pF_2_3, pF_2_4, pF_19_0, pF_19_1, pF_19_2, pF_19_3, pF_19_4, pF_19_5, pF_19_6, pF_19_7, pF_19_8, pF_21_0, pF_21_1, pF_45_0, pF_48_3, pF_56_0, pF_56_1, pF_56_3, pF_56_4, pF_56_5, pF_56_6, pF_56_7, pF_56_8, pF_56_10, pF_56_21, pF_56_24, pF_Tu_0, pF_Tu_1, pF_Tu_2, pF_Tu_3, pF_Tu_4, pF_Tv_0, pF_Tv_1, pF_Tv_2, pF_Tv_3, pF_Tv_4, gA_3, gA_4, gA_20, gZ_44, gA_46, gA_47, gA_49, gA_50, gA_51, gA_57, gA_58, gA_59, gA_60, gA_61, gA_62, gA_63, gA_64, gA_65, gA_66, gZ_67, gA_68, gA_69, gA_70, gA_71, gA_72, gA_Tu1, gA_Tu2, gA_Tu3, gA_Tu4, gA_Tu5, gA_Tu6, gA_Tv1, gA_Tv2, gA_Tv3, gA_Tv4, gA_Tv5, gA_Tv6, gQ_22, gQ_43, gL_0, gA_0, pA_3, pA_4, pA_20, pZ_44, pA_46, pA_47, pA_49, pA_50, pA_51, pA_57, pA_58, pA_59, pA_60, pA_61, pA_62, pA_63, pA_64, pA_65, pA_66, pZ_67, pA_68, pA_69, pA_70, pA_71, pA_72, pA_Tu1, pA_Tu2, pA_Tu3, pA_Tu4, pA_Tu5, pA_Tu6, pA_Tv1, pA_Tv2, pA_Tv3, pA_Tv4, pA_Tv5, pA_Tv6, rc_1, rc_2, rc_19, rc_21, rc_45, rc_48, rc_56, rc_Tu, rc_Tv, ↓reduceIte, m31_0, m31_1, m31_2, m31_3, m31_4, m31_5, m31_6, m31_7, m31_8, m31_9, m31_10, m31_11, m31_12, m31_13,  Tk_19, Tk_21, Tk_2, rbI_19, rbI_T, rbF_20, rbF_T1, rbF_T2, rbF_T4, Nat.add_left_cancel_iff, ne_eq, x_within, x_isDay, x_isWork, x_isOver, x_hoursOf, x_warmthOf, x_dueOf, x_poundsOf, x_worthOf, x_claimOf, x_allFresh, x_held, x_strokes, x_need, x_come, x_takeFresh, x_feed, x_sleep, x_sets, x_canBeFed, x_isFed, bd_s, rc_2, rc_19, rc_21, rc_45, rc_48, rc_56, rc_Tu, rc_Tv, vB_0, tc_0, tc_1, tc_2, tc_3, tc_4, tc_5, tc_6, tc_7, tc_8, tc_9, tc_10, tc_11, tc_12, tc_13, tc_14, if_true, if_false, up_s, ud_s, ud_n, up_n, bx_uu, Int32.reduceLT, Int32.reduceAdd, Int32.reduceSub, Int32.reduceMul, z00, z11, pl_i, if_bN, if_bI, bI_0, ite_not, pv_s, pv_n, rc_19, rc_1, true_and, and_true, not_true_eq_false, not_false_eq_true, eq_true hn, bI_T, hs, x2]
        · rw [if_neg n0, if_neg n1] at hm
          rcases hc with ⟨a1, a2, a3, a4, a5⟩ | ⟨b, ⟨j, j1, j2, j3⟩, w, w1, w2, w3⟩
          · rw [if_pos a5] at hm
            rw [a3]
            exact hm
          · rw [if_neg (by rw [w3]; exact nI_ne0 (by omega) (by omega)), j3] at hm
            rw [j2]
            exact hm
  · exact MC_q (r := .int (-1)) (by set_option maxRecDepth 100000 in simp (config := { decide := true }) only [q72_0, q72_1, q72_2, q72_3, q72_6, q72_9, q72_10, q72_11, q72_12, q72_15, q72_18, q72_19, q72_20, q72_23, q72_24, q72_27, q72_28, q72_31, q72_32, q72_33, q72_34, q72_37, q72_38, q72_41, q72_42, q72_45, q72_48, q72_49, q72_52, q72_53, q72_56, gF_1_0, gF_1_1, gF_1_2, gF_1_3, gF_1_4, gF_1_5, gF_1_6, gF_1_7, gF_1_8, gF_1_9, gF_2_0, gF_2_1, gF_2_2, gF_2_3, gF_2_4, gF_19_0, gF_19_1, gF_19_2, gF_19_3, gF_19_4, gF_19_5, gF_19_6, gF_19_7, gF_19_8, gF_19_9, gF_21_0, gF_21_1, gF_21_2, gF_45_0, gF_45_1, gF_45_2, gF_48_0, gF_48_1, gF_48_2, gF_48_3, gF_56_0, gF_56_1, gF_56_2, gF_56_3, gF_56_4, gF_56_5, gF_56_6, gF_56_7, gF_56_8, gF_56_9, gF_56_10, gF_56_11, gF_56_12, gF_56_13, gF_56_14, gF_56_15, gF_56_16, gF_56_17, gF_56_18, gF_56_19, gF_56_20, gF_56_21, gF_56_22, gF_56_23, gF_56_24, gF_56_25, gF_56_26, gF_Tu_0, gF_Tu_1, gF_Tu_2, gF_Tu_3, gF_Tu_4, gF_Tu_5, gF_Tu_6, gF_Tu_7, gF_Tu_8, gF_Tu_9, gF_Tu_10, gF_Tv_0, gF_Tv_1, gF_Tv_2, gF_Tv_3, gF_Tv_4, gF_Tv_5, gF_Tv_6, gF_Tv_7, gF_Tv_8, gF_Tv_9, gF_Tv_10, pF_1_1, pF_1_2, pF_1_9, pF_2_0, pF_2_3, pF_2_4, pF_19_0, pF_19_1, pF_19_2, pF_19_3, pF_19_4, pF_19_5, pF_19_6, pF_19_7, pF_19_8, pF_21_0, pF_21_1, pF_45_0, pF_48_3, pF_56_0, pF_56_1, pF_56_3, pF_56_4, pF_56_5, pF_56_6, pF_56_7, pF_56_8, pF_56_10, pF_56_21, pF_56_24, pF_Tu_0, pF_Tu_1, pF_Tu_2, pF_Tu_3, pF_Tu_4, pF_Tv_0, pF_Tv_1, pF_Tv_2, pF_Tv_3, pF_Tv_4, gA_3, gA_4, gA_20, gZ_44, gA_46, gA_47, gA_49, gA_50, gA_51, gA_57, gA_58, gA_59, gA_60, gA_61, gA_62, gA_63, gA_64, gA_65, gA_66, gZ_67, gA_68, gA_69, gA_70, gA_71, gA_72, gA_Tu1, gA_Tu2, gA_Tu3, gA_Tu4, gA_Tu5, gA_Tu6, gA_Tv1, gA_Tv2, gA_Tv3, gA_Tv4, gA_Tv5, gA_Tv6, gQ_22, gQ_43, gL_0, gA_0, pA_3, pA_4, pA_20, pZ_44, pA_46, pA_47, pA_49, pA_50, pA_51, pA_57, pA_58, pA_59, pA_60, pA_61, pA_62, pA_63, pA_64, pA_65, pA_66, pZ_67, pA_68, pA_69, pA_70, pA_71, pA_72, pA_Tu1, pA_Tu2, pA_Tu3, pA_Tu4, pA_Tu5, pA_Tu6, pA_Tv1, pA_Tv2, pA_Tv3, pA_Tv4, pA_Tv5, pA_Tv6, rc_1, rc_2, rc_19, rc_21, rc_45, rc_48, rc_56, rc_Tu, rc_Tv, ↓reduceIte, m31_0, m31_1, m31_2, m31_3, m31_4, m31_5, m31_6, m31_7, m31_8, m31_9, m31_10, m31_11, m31_12, m31_13,  Tk_19, Tk_21, Tk_2, rbI_19, rbI_T, rbF_20, rbF_T1, rbF_T2, rbF_T4, Nat.add_left_cancel_iff, ne_eq, x_within, x_isDay, x_isWork, x_isOver, x_hoursOf, x_warmthOf, x_dueOf, x_poundsOf, x_worthOf, x_claimOf, x_allFresh, x_held, x_strokes, x_need, x_come, x_takeFresh, x_feed, x_sleep, x_sets, x_canBeFed, x_isFed, bd_s, rc_2, rc_19, rc_21, rc_45, rc_48, rc_56, rc_Tu, rc_Tv, vB_0, tc_0, tc_1, tc_2, tc_3, tc_4, tc_5, tc_6, tc_7, tc_8, tc_9, tc_10, tc_11, tc_12, tc_13, tc_14, if_true, if_false, up_s, ud_s, ud_n, up_n, bx_uu, Int32.reduceLT, Int32.reduceAdd, Int32.reduceSub, Int32.reduceMul, z00, z11, pl_i, if_bN, if_bI, bI_0, ite_not, pv_s, pv_n, rc_19, rc_1, true_and, and_true, not_true_eq_false, not_false_eq_true, eq_false hn, bI_F]) (y_cheatsN hn) hR
theorem mc_taste (hR : R u I F J) : MC L u I F J 73 147 [.ref 1] [.ref 56, .float 0, .float 0, .float 0, .float 0, .float 0, .float 0] := by
  obtain ⟨s, r1, r2, hB, r4, r5, ⟨m, m1, m2, m3, m4⟩, r7⟩ := id hR
  have hk := Tk_5 u
  have hG := r2.2.1.1
  have h32 : 2 ^ s.1 3 ≤ 2 ^ 5 := Nat.pow_le_pow_right (by decide) (by omega)
  have h2 : 2 ^ 1 ≤ 2 ^ s.1 3 := Nat.pow_le_pow_right (by decide) (by omega)
  have hs : (1 : Int32) <<< (I (Tk u) 3 &&& 31) = nI (2 ^ s.1 3) := by rw [r2.1.1.2.2.2.1]; exact shl_n _ (by omega)
  have hs2 : (1 : Int32) <<< (F 58 2 &&& 31) - 1 = nI (2 ^ s.1 3 - 1) := by rw [r2.2.2.1.2.2.2, shl_n _ (by omega), show (1 : Int32) = nI 1 from rfl, pk_sub (by omega)]
  have hp := cbP_c m4
  have hm := y_taste (L := L) (u := u) (v := !u) (I := I) (F := F) (J := J) m2 m3 (M := 2 ^ s.1 3 - 1) (by omega) (by omega) hs2
  have hx := x_bestTaste (L := L) (u := u) (v := !u) (I := I) (F := F) (J := J) m1 m3 (N := 2 ^ s.1 3) (by omega) (by omega)
  rw [show 2 ^ s.1 3 - 1 + 1 = 2 ^ s.1 3 by omega, ← hp] at hm
  obtain ⟨g, b, q1, q2, q3, q4⟩ := gr_le (p := cbP (F 46) (F 47) m) (N := 2 ^ s.1 3) (t := 1) (by omega)
  have he := bt_eq (p := cbP (F 46) (F 47) m) (N := 2 ^ s.1 3) (l := cnI (cbP (F 46) (F 47) m) (2 ^ s.1 3) + 1) (l' := 1000000) (by rw [q3, q4, nI_1]; exact lt_n (by omega) (by omega)) (by rw [q3]; exact lt_n (n := 1000000) (by omega) (by decide)) (2 ^ s.1 3 - 1 - 1)
  rw [show 2 ^ s.1 3 - 1 - 1 + 1 = 2 ^ s.1 3 - 1 by omega] at he
  rw [← he] at hm
  refine MC_q ?_ hm hR
  set_option maxRecDepth 100000 in simp (config := { decide := true }) only [q73_0, q73_1, q73_4, q73_5, q73_8, q73_11, q73_14, gF_1_0, gF_1_1, gF_1_2, gF_1_3, gF_1_4, gF_1_5, gF_1_6, gF_1_7, gF_1_8, gF_1_9, gF_2_0, gF_2_1, gF_2_2, gF_2_3, gF_2_4, gF_19_0, gF_19_1, gF_19_2, gF_19_3, gF_19_4, gF_19_5, gF_19_6, gF_19_7, gF_19_8, gF_19_9, gF_21_0, gF_21_1, gF_21_2, gF_45_0, gF_45_1, gF_45_2, gF_48_0, gF_48_1, gF_48_2, gF_48_3, gF_56_0, gF_56_1, gF_56_2, gF_56_3, gF_56_4, gF_56_5, gF_56_6, gF_56_7, gF_56_8, gF_56_9, gF_56_10, gF_56_11, gF_56_12, gF_56_13, gF_56_14, gF_56_15, gF_56_16, gF_56_17, gF_56_18, gF_56_19, gF_56_20, gF_56_21, gF_56_22, gF_56_23, gF_56_24, gF_56_25, gF_56_26, gF_Tu_0, gF_Tu_1, gF_Tu_2, gF_Tu_3, gF_Tu_4, gF_Tu_5, gF_Tu_6, gF_Tu_7, gF_Tu_8, gF_Tu_9, gF_Tu_10, gF_Tv_0, gF_Tv_1, gF_Tv_2, gF_Tv_3, gF_Tv_4, gF_Tv_5, gF_Tv_6, gF_Tv_7, gF_Tv_8, gF_Tv_9, gF_Tv_10, pF_1_1, pF_1_2, pF_1_9, pF_2_0, pF_2_3, pF_2_4, pF_19_0, pF_19_1, pF_19_2, pF_19_3, pF_19_4, pF_19_5, pF_19_6, pF_19_7, pF_19_8, pF_21_0, pF_21_1, pF_45_0, pF_48_3, pF_56_0, pF_56_1, pF_56_3, pF_56_4, pF_56_5, pF_56_6, pF_56_7, pF_56_8, pF_56_10, pF_56_21, pF_56_24, pF_Tu_0, pF_Tu_1, pF_Tu_2, pF_Tu_3, pF_Tu_4, pF_Tv_0, pF_Tv_1, pF_Tv_2, pF_Tv_3, pF_Tv_4, gA_3, gA_4, gA_20, gZ_44, gA_46, gA_47, gA_49, gA_50, gA_51, gA_57, gA_58, gA_59, gA_60, gA_61, gA_62, gA_63, gA_64, gA_65, gA_66, gZ_67, gA_68, gA_69, gA_70, gA_71, gA_72, gA_Tu1, gA_Tu2, gA_Tu3, gA_Tu4, gA_Tu5, gA_Tu6, gA_Tv1, gA_Tv2, gA_Tv3, gA_Tv4, gA_Tv5, gA_Tv6, gQ_22, gQ_43, gL_0, gA_0, pA_3, pA_4, pA_20, pZ_44, pA_46, pA_47, pA_49, pA_50, pA_51, pA_57, pA_58, pA_59, pA_60, pA_61, pA_62, pA_63, pA_64, pA_65, pA_66, pZ_67, pA_68, pA_69, pA_70, pA_71, pA_72, pA_Tu1, pA_Tu2, pA_Tu3, pA_Tu4, pA_Tu5, pA_Tu6, pA_Tv1, pA_Tv2, pA_Tv3, pA_Tv4, pA_Tv5, pA_Tv6, rc_1, rc_2, rc_19, rc_21, rc_45, rc_48, rc_56, rc_Tu, rc_Tv, ↓reduceIte, m31_0, m31_1, m31_2, m31_3, m31_4, m31_5, m31_6, m31_7, m31_8, m31_9, m31_10, m31_11, m31_12, m31_13,  Tk_19, Tk_21, Tk_2, rbI_19, rbI_T, rbF_20, rbF_T1, rbF_T2, rbF_T4, Nat.add_left_cancel_iff, ne_eq, x_within, x_isDay, x_isWork, x_isOver, x_hoursOf, x_warmthOf, x_dueOf, x_poundsOf, x_worthOf, x_claimOf, x_allFresh, x_held, x_strokes, x_need, x_come, x_takeFresh, x_feed, x_sleep, x_sets, x_canBeFed, x_isFed, bd_s, rc_2, rc_19, rc_21, rc_45, rc_48, rc_56, rc_Tu, rc_Tv, vB_0, tc_0, tc_1, tc_2, tc_3, tc_4, tc_5, tc_6, tc_7, tc_8, tc_9, tc_10, tc_11, tc_12, tc_13, tc_14, if_true, if_false, up_s, ud_s, ud_n, up_n, bx_uu, Int32.reduceLT, Int32.reduceAdd, Int32.reduceSub, Int32.reduceMul, z00, z11, pl_i, if_bN, if_bI, bI_0, ite_not, pv_s, pv_n, rc_19, rc_1, true_and, and_true, not_true_eq_false, not_false_eq_true, hs, hx]
end M14
