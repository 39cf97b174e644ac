/-! the tables of the program: classes, methods, links; all by program out of the printed names (wip/whole/gen1.py) -/
/-- the words that stay: of the claim's tables those that a warmer state keeps -/
def tx_B : List Cond := lw_tbl.filter goodWord
theorem bg_1 {w : Cond} (h : w ∈ tables_1_1) (g : goodWord w = true) : w ∈ tx_B := List.mem_filter.mpr ⟨List.mem_append_right _ (List.mem_append_left _ h), g⟩
theorem bg_2 {w : Cond} (h : w ∈ tables_1_2) (g : goodWord w = true) : w ∈ tx_B := List.mem_filter.mpr ⟨List.mem_append_right _ (List.mem_append_right _ (List.mem_append_left _ h)), g⟩
theorem bg_3 {w : Cond} (h : w ∈ tables_1_3) (g : goodWord w = true) : w ∈ tx_B := List.mem_filter.mpr ⟨List.mem_append_right _ (List.mem_append_right _ (List.mem_append_right _ (List.mem_append_left _ h))), g⟩
theorem bg_4 {w : Cond} (h : w ∈ tables_1_4) (g : goodWord w = true) : w ∈ tx_B := List.mem_filter.mpr ⟨List.mem_append_right _ (List.mem_append_right _ (List.mem_append_right _ (List.mem_append_right _ (h)))), g⟩
theorem bg_s {q : MethodName × Nat} (h : q ∈ lw_privs) : Cond.selects q.1.cls q.1 q.1 ∈ tx_B := List.mem_filter.mpr ⟨List.mem_append_left _ (List.mem_map.mpr ⟨q, h, rfl⟩), rfl⟩
theorem wl_goodIn {y : Cond} (h : y ∈ tx_B) : GoodIn tx_B (y :: tx_B) := fun w hw => by
  have hm : w ∈ tx_B := by
    rcases List.mem_cons.mp hw with e | e
    · rw [e]; exact h
    · exact e
  exact ⟨hm, good_of_word (List.mem_filter.mp hm).2⟩
theorem tx_lay0 : ∀ w ∈ u_ws RX0 TX0 10, w ∈ tx_B := by
  intro w hw
  obtain ⟨k, hk, rfl⟩ := List.mem_map.mp hw
  have hk := List.mem_range.mp hk
  match k, hk with
  | 0, _ => exact (bg_1 (List.mem_of_getElem? (i := 113) rfl) rfl)
  | 1, _ => exact (bg_1 (List.mem_of_getElem? (i := 115) rfl) rfl)
  | 2, _ => exact (bg_1 (List.mem_of_getElem? (i := 117) rfl) rfl)
  | 3, _ => exact (bg_1 (List.mem_of_getElem? (i := 119) rfl) rfl)
  | 4, _ => exact (bg_1 (List.mem_of_getElem? (i := 121) rfl) rfl)
  | 5, _ => exact (bg_1 (List.mem_of_getElem? (i := 123) rfl) rfl)
  | 6, _ => exact (bg_1 (List.mem_of_getElem? (i := 125) rfl) rfl)
  | 7, _ => exact (bg_1 (List.mem_of_getElem? (i := 127) rfl) rfl)
  | 8, _ => exact (bg_1 (List.mem_of_getElem? (i := 129) rfl) rfl)
  | 9, _ => exact (bg_1 (List.mem_of_getElem? (i := 131) rfl) rfl)
  | n + 10, h => exact absurd h (by omega)
theorem tx_lay1 : ∀ w ∈ u_ws RX1 TX1 5, w ∈ tx_B := by
  intro w hw
  obtain ⟨k, hk, rfl⟩ := List.mem_map.mp hw
  have hk := List.mem_range.mp hk
  match k, hk with
  | 0, _ => exact (bg_1 (List.mem_of_getElem? (i := 31) rfl) rfl)
  | 1, _ => exact (bg_1 (List.mem_of_getElem? (i := 33) rfl) rfl)
  | 2, _ => exact (bg_1 (List.mem_of_getElem? (i := 35) rfl) rfl)
  | 3, _ => exact (bg_1 (List.mem_of_getElem? (i := 37) rfl) rfl)
  | 4, _ => exact (bg_1 (List.mem_of_getElem? (i := 39) rfl) rfl)
  | n + 5, h => exact absurd h (by omega)
theorem tx_lay2 : ∀ w ∈ u_ws RX2 TX2 3, w ∈ tx_B := by
  intro w hw
  obtain ⟨k, hk, rfl⟩ := List.mem_map.mp hw
  have hk := List.mem_range.mp hk
  match k, hk with
  | 0, _ => exact (bg_1 (List.mem_of_getElem? (i := 147) rfl) rfl)
  | 1, _ => exact (bg_1 (List.mem_of_getElem? (i := 149) rfl) rfl)
  | 2, _ => exact (bg_1 (List.mem_of_getElem? (i := 151) rfl) rfl)
  | n + 3, h => exact absurd h (by omega)
theorem tx_lay3 : ∀ w ∈ u_ws RX3 TX3 11, w ∈ tx_B := by
  intro w hw
  obtain ⟨k, hk, rfl⟩ := List.mem_map.mp hw
  have hk := List.mem_range.mp hk
  match k, hk with
  | 0, _ => exact (bg_1 (List.mem_of_getElem? (i := 64) rfl) rfl)
  | 1, _ => exact (bg_1 (List.mem_of_getElem? (i := 66) rfl) rfl)
  | 2, _ => exact (bg_1 (List.mem_of_getElem? (i := 68) rfl) rfl)
  | 3, _ => exact (bg_1 (List.mem_of_getElem? (i := 70) rfl) rfl)
  | 4, _ => exact (bg_1 (List.mem_of_getElem? (i := 72) rfl) rfl)
  | 5, _ => exact (bg_1 (List.mem_of_getElem? (i := 74) rfl) rfl)
  | 6, _ => exact (bg_1 (List.mem_of_getElem? (i := 76) rfl) rfl)
  | 7, _ => exact (bg_1 (List.mem_of_getElem? (i := 78) rfl) rfl)
  | 8, _ => exact (bg_1 (List.mem_of_getElem? (i := 80) rfl) rfl)
  | 9, _ => exact (bg_1 (List.mem_of_getElem? (i := 82) rfl) rfl)
  | 10, _ => exact (bg_1 (List.mem_of_getElem? (i := 84) rfl) rfl)
  | n + 11, h => exact absurd h (by omega)
theorem tx_lay4 : ∀ w ∈ u_ws RX4 TX4 3, w ∈ tx_B := by
  intro w hw
  obtain ⟨k, hk, rfl⟩ := List.mem_map.mp hw
  have hk := List.mem_range.mp hk
  match k, hk with
  | 0, _ => exact (bg_1 (List.mem_of_getElem? (i := 164) rfl) rfl)
  | 1, _ => exact (bg_1 (List.mem_of_getElem? (i := 166) rfl) rfl)
  | 2, _ => exact (bg_1 (List.mem_of_getElem? (i := 168) rfl) rfl)
  | n + 3, h => exact absurd h (by omega)
theorem tx_lay5 : ∀ w ∈ u_ws RX5 TX5 4, w ∈ tx_B := by
  intro w hw
  obtain ⟨k, hk, rfl⟩ := List.mem_map.mp hw
  have hk := List.mem_range.mp hk
  match k, hk with
  | 0, _ => exact (bg_1 (List.mem_of_getElem? (i := 184) rfl) rfl)
  | 1, _ => exact (bg_1 (List.mem_of_getElem? (i := 186) rfl) rfl)
  | 2, _ => exact (bg_1 (List.mem_of_getElem? (i := 188) rfl) rfl)
  | 3, _ => exact (bg_1 (List.mem_of_getElem? (i := 190) rfl) rfl)
  | n + 4, h => exact absurd h (by omega)
theorem tx_lay6 : ∀ w ∈ u_ws RX6 TX6 10, w ∈ tx_B := by
  intro w hw
  obtain ⟨k, hk, rfl⟩ := List.mem_map.mp hw
  have hk := List.mem_range.mp hk
  match k, hk with
  | 0, _ => exact (bg_1 (List.mem_of_getElem? (i := 203) rfl) rfl)
  | 1, _ => exact (bg_1 (List.mem_of_getElem? (i := 205) rfl) rfl)
  | 2, _ => exact (bg_1 (List.mem_of_getElem? (i := 207) rfl) rfl)
  | 3, _ => exact (bg_1 (List.mem_of_getElem? (i := 209) rfl) rfl)
  | 4, _ => exact (bg_1 (List.mem_of_getElem? (i := 211) rfl) rfl)
  | 5, _ => exact (bg_1 (List.mem_of_getElem? (i := 213) rfl) rfl)
  | 6, _ => exact (bg_1 (List.mem_of_getElem? (i := 215) rfl) rfl)
  | 7, _ => exact (bg_1 (List.mem_of_getElem? (i := 217) rfl) rfl)
  | 8, _ => exact (bg_1 (List.mem_of_getElem? (i := 219) rfl) rfl)
  | 9, _ => exact (bg_1 (List.mem_of_getElem? (i := 221) rfl) rfl)
  | n + 10, h => exact absurd h (by omega)
theorem tx_lay7 : ∀ w ∈ u_ws RX7 TX7 27, w ∈ tx_B := by
  intro w hw
  obtain ⟨k, hk, rfl⟩ := List.mem_map.mp hw
  have hk := List.mem_range.mp hk
  match k, hk with
  | 0, _ => exact (bg_3 (List.mem_of_getElem? (i := 197) rfl) rfl)
  | 1, _ => exact (bg_3 (List.mem_of_getElem? (i := 199) rfl) rfl)
  | 2, _ => exact (bg_3 (List.mem_of_getElem? (i := 201) rfl) rfl)
  | 3, _ => exact (bg_3 (List.mem_of_getElem? (i := 203) rfl) rfl)
  | 4, _ => exact (bg_3 (List.mem_of_getElem? (i := 205) rfl) rfl)
  | 5, _ => exact (bg_3 (List.mem_of_getElem? (i := 207) rfl) rfl)
  | 6, _ => exact (bg_3 (List.mem_of_getElem? (i := 209) rfl) rfl)
  | 7, _ => exact (bg_3 (List.mem_of_getElem? (i := 211) rfl) rfl)
  | 8, _ => exact (bg_3 (List.mem_of_getElem? (i := 213) rfl) rfl)
  | 9, _ => exact (bg_3 (List.mem_of_getElem? (i := 215) rfl) rfl)
  | 10, _ => exact (bg_3 (List.mem_of_getElem? (i := 217) rfl) rfl)
  | 11, _ => exact (bg_3 (List.mem_of_getElem? (i := 219) rfl) rfl)
  | 12, _ => exact (bg_3 (List.mem_of_getElem? (i := 221) rfl) rfl)
  | 13, _ => exact (bg_3 (List.mem_of_getElem? (i := 223) rfl) rfl)
  | 14, _ => exact (bg_3 (List.mem_of_getElem? (i := 225) rfl) rfl)
  | 15, _ => exact (bg_3 (List.mem_of_getElem? (i := 227) rfl) rfl)
  | 16, _ => exact (bg_3 (List.mem_of_getElem? (i := 229) rfl) rfl)
  | 17, _ => exact (bg_3 (List.mem_of_getElem? (i := 231) rfl) rfl)
  | 18, _ => exact (bg_3 (List.mem_of_getElem? (i := 233) rfl) rfl)
  | 19, _ => exact (bg_3 (List.mem_of_getElem? (i := 235) rfl) rfl)
  | 20, _ => exact (bg_3 (List.mem_of_getElem? (i := 237) rfl) rfl)
  | 21, _ => exact (bg_3 (List.mem_of_getElem? (i := 239) rfl) rfl)
  | 22, _ => exact (bg_4 (List.mem_of_getElem? (i := 1) rfl) rfl)
  | 23, _ => exact (bg_4 (List.mem_of_getElem? (i := 3) rfl) rfl)
  | 24, _ => exact (bg_4 (List.mem_of_getElem? (i := 5) rfl) rfl)
  | 25, _ => exact (bg_4 (List.mem_of_getElem? (i := 7) rfl) rfl)
  | 26, _ => exact (bg_4 (List.mem_of_getElem? (i := 9) rfl) rfl)
  | n + 27, h => exact absurd h (by omega)
def tx_R : Nat → String := fun k => match k with
  | 0 => RX0
  | 1 => RX1
  | 2 => RX2
  | 3 => RX3
  | 4 => RX4
  | 5 => RX5
  | 6 => RX6
  | 7 => RX7
  | 8 => RL
  | _ => RJ6
def tx_T : Nat → u_T := fun k => match k with
  | 0 => TX0
  | 1 => TX1
  | 2 => TX2
  | 3 => TX3
  | 4 => TX4
  | 5 => TX5
  | 6 => TX6
  | _ => TX7
def tx_ty : Nat → Nat → FieldType := fun k => match k with
  | 0 => tyX0
  | 1 => tyX1
  | 2 => tyX2
  | 3 => tyX3
  | 4 => tyX4
  | 5 => tyX5
  | 6 => tyX6
  | _ => tyX7
def tx_N : Nat → Nat := fun k => match k with
  | 0 => 10
  | 1 => 5
  | 2 => 3
  | 3 => 11
  | 4 => 3
  | 5 => 4
  | 6 => 10
  | _ => 27
theorem tx_cl : ∀ k, k < 8 → vwCl[k]? = some (tx_R k, tx_T k, tx_N k) := by
  intro k hk
  match k, hk with
  | 0, _ => exact rfl
  | 1, _ => exact rfl
  | 2, _ => exact rfl
  | 3, _ => exact rfl
  | 4, _ => exact rfl
  | 5, _ => exact rfl
  | 6, _ => exact rfl
  | 7, _ => exact rfl
  | n + 8, h => exact absurd h (by omega)
theorem tx_in : ∀ k, k < 8 → ∀ w ∈ u_ws (tx_R k) (tx_T k) (tx_N k), w ∈ tx_B := by
  intro k hk
  match k, hk with
  | 0, _ => exact tx_lay0
  | 1, _ => exact tx_lay1
  | 2, _ => exact tx_lay2
  | 3, _ => exact tx_lay3
  | 4, _ => exact tx_lay4
  | 5, _ => exact tx_lay5
  | 6, _ => exact tx_lay6
  | 7, _ => exact tx_lay7
  | n + 8, h => exact absurd h (by omega)
theorem tx_tyok : ∀ k, k < 8 → ∀ j, j < tx_N k → parseFieldDescriptor (tx_T k j).2.2.1 = some (tx_ty k j) := by
  intro k hk
  match k, hk with
  | 0, _ => exact tyX0_ok
  | 1, _ => exact tyX1_ok
  | 2, _ => exact tyX2_ok
  | 3, _ => exact tyX3_ok
  | 4, _ => exact tyX4_ok
  | 5, _ => exact tyX5_ok
  | 6, _ => exact tyX6_ok
  | 7, _ => exact tyX7_ok
  | n + 8, h => exact absurd h (by omega)
theorem tx_nm : ∀ k, k < 8 → ∀ a, a < tx_N k → ∀ b, b < tx_N k → a ≠ b → (tx_T k a).2.1 ≠ (tx_T k b).2.1 := by
  intro k hk
  match k, hk with
  | 0, _ => exact nmX0
  | 1, _ => exact nmX1
  | 2, _ => exact nmX2
  | 3, _ => exact nmX3
  | 4, _ => exact nmX4
  | 5, _ => exact nmX5
  | 6, _ => exact nmX6
  | 7, _ => exact nmX7
  | n + 8, h => exact absurd h (by omega)
abbrev tx_Me : Type := MethodName × ByteArray × Nat × Option FieldType × Nat × Nat × Nat × Nat × Nat
def tx_M0 : List tx_Me := [
  (yX0_init, cX0_init, 1, none, 0, 1, 1, 20, 2),
  (yX0_empty, cX0_empty, 2, none, 0, 1, 0, 0, 1),
  (yX0_isFed, cX0_isFed, 2, (some .boolean), 0, 2, 0, 0, 1),
  (yX0_allFresh, cX0_allFresh, 3, (some .int), 0, 1, 0, 0, 1),
  (yX0_held, cX0_held, 1, (some .int), 0, 1, 1, 22, 1),
  (yX0_come, cX0_come, 2, (some .int), 0, 1, 0, 0, 1),
  (yX0_takeFresh, cX0_takeFresh, 5, (some .int), 0, 2, 1, 21, 1),
  (yX0_feed, cX0_feed, 3, none, 0, 3, 2, 45, 1),
  (yX0_sleep, cX0_sleep, 2, none, 0, 1, 0, 0, 1),
  (yX1_init, cX1_init, 1, none, 1, 1, 1, 20, 2),
  (yX1_addLetter, cX1_addLetter, 2, (some .boolean), 1, 2, 1, 22, 1),
  (yX1_readInto, cX1_readInto, 6, (some .int), 1, 2, 4, 91, 1),
  (yX1_letterAt, cX1_letterAt, 2, (some .int), 1, 2, 1, 22, 1),
  (yX1_isDigit, cX1_isDigit, 2, (some .boolean), 1, 2, 2, 43, 1),
  (yX1_behindBlanks, cX1_behindBlanks, 3, (some .int), 1, 2, 2, 43, 1),
  (yX1_behindToken, cX1_behindToken, 3, (some .int), 1, 2, 3, 64, 1),
  (yX1_takesToken, cX1_takesToken, 5, (some .boolean), 1, 4, 3, 67, 1),
  (yX1_takesNumber, cX1_takesNumber, 5, (some .boolean), 1, 3, 2, 43, 1),
  (yX1_closesItem, cX1_closesItem, 2, (some .boolean), 1, 2, 2, 45, 1),
  (yX1_numbersOf, cX1_numbersOf, 1, (some .int), 1, 1, 0, 0, 0),
  (yX1_leastNumber, cX1_leastNumber, 2, (some .int), 1, 2, 0, 0, 0),
  (yX1_mostNumber, cX1_mostNumber, 2, (some .int), 1, 2, 0, 0, 0),
  (yX2_init, cX2_init, 2, none, 2, 1, 2, 40, 2),
  (yX2_remember, cX2_remember, 2, none, 2, 2, 1, 22, 1),
  (yX2_recall, cX2_recall, 2, (some .boolean), 2, 2, 1, 22, 1),
  (yX3_init, cX3_init, 1, none, 3, 1, 1, 20, 2),
  (yX3_untell, cX3_untell, 1, none, 3, 1, 0, 0, 1),
  (yX3_hasRoomFor, cX3_hasRoomFor, 2, (some .boolean), 3, 2, 0, 0, 1),
  (yX3_addDay, cX3_addDay, 3, none, 3, 3, 1, 22, 1),
  (yX3_addWork, cX3_addWork, 4, none, 3, 4, 1, 22, 1),
  (yX3_addClaim, cX3_addClaim, 2, none, 3, 2, 1, 22, 1),
  (yX3_tellDairies, cX3_tellDairies, 2, none, 3, 2, 0, 0, 1),
  (yX3_hoursOf, cX3_hoursOf, 2, (some .int), 3, 2, 1, 22, 1),
  (yX3_warmthOf, cX3_warmthOf, 2, (some .int), 3, 2, 1, 22, 1),
  (yX3_dueOf, cX3_dueOf, 2, (some .int), 3, 2, 1, 22, 1),
  (yX3_poundsOf, cX3_poundsOf, 2, (some .int), 3, 2, 1, 22, 1),
  (yX3_worthOf, cX3_worthOf, 2, (some .int), 3, 2, 1, 22, 1),
  (yX3_claimOf, cX3_claimOf, 2, (some .int), 3, 2, 1, 22, 1),
  (yX3_allClaims, cX3_allClaims, 3, (some .int), 3, 1, 2, 43, 1),
  (yX3_worthOfAll, cX3_worthOfAll, 4, (some .int), 3, 2, 2, 43, 1)]
def tx_M1 : List tx_Me := [
  (yX3_poundsDueBy, cX3_poundsDueBy, 5, (some .int), 3, 3, 2, 43, 1),
  (yX3_sets, cX3_sets, 1, (some .int), 3, 1, 0, 0, 1),
  (yX4_init, cX4_init, 1, none, 4, 1, 1, 20, 2),
  (yX4_addTasting, cX4_addTasting, 3, (some .boolean), 4, 3, 1, 22, 1),
  (yX4_canBe, cX4_canBe, 3, (some .boolean), 4, 2, 0, 0, 1),
  (yX4_possible, cX4_possible, 4, (some .int), 4, 2, 1, 22, 1),
  (yX4_inAll, cX4_inAll, 4, (some .int), 4, 2, 1, 22, 1),
  (yX4_fewest, cX4_fewest, 5, (some .int), 4, 2, 1, 22, 1),
  (yX4_bestTaste, cX4_bestTaste, 8, (some .int), 4, 2, 2, 46, 1),
  (yX4_tastingOf, cX4_tastingOf, 5, (some .int), 4, 3, 1, 22, 1),
  (yX5_init, cX5_init, 1, none, 5, 1, 1, 20, 2),
  (yX5_strokeFrom, cX5_strokeFrom, 6, none, 5, 4, 2, 45, 1),
  (yX5_comeTo, cX5_comeTo, 4, none, 5, 4, 1, 22, 1),
  (yX6_init, cX6_init, 2, none, 6, 1, 3, 61, 2),
  (yX6_type, cX6_type, 2, (some .int), 6, 2, 2, 43, 1),
  (yX6_clear, cX6_clear, 2, (some .int), 6, 1, 0, 0, 1),
  (yX6_dairy, cX6_dairy, 3, (some .int), 6, 1, 5, 116, 1),
  (yX6_day, cX6_day, 3, (some .int), 6, 3, 2, 43, 1),
  (yX6_work, cX6_work, 3, (some .int), 6, 3, 2, 43, 1),
  (yX6_now, cX6_now, 2, (some .int), 6, 2, 4, 84, 1),
  (yX6_fresh, cX6_fresh, 2, (some .int), 6, 2, 1, 22, 1),
  (yX6_stands, cX6_stands, 1, (some .int), 6, 1, 2, 43, 1),
  (yX6_beats, cX6_beats, 2, (some .int), 6, 2, 3, 64, 1),
  (yX6_salts, cX6_salts, 2, (some .int), 6, 2, 2, 45, 1),
  (yX6_quarrels, cX6_quarrels, 2, (some .int), 6, 2, 3, 64, 1),
  (yX6_feeds, cX6_feeds, 2, (some .int), 6, 2, 3, 67, 1),
  (yX6_night, cX6_night, 1, (some .int), 6, 1, 2, 43, 1),
  (yX6_undo, cX6_undo, 1, (some .int), 6, 1, 2, 43, 1),
  (yX6_coming, cX6_coming, 2, (some .int), 6, 2, 3, 67, 1),
  (yX6_menu, cX6_menu, 3, (some .int), 6, 2, 5, 113, 1),
  (yX6_tasted, cX6_tasted, 3, (some .int), 6, 3, 2, 44, 1),
  (yX6_forget, cX6_forget, 2, (some .int), 6, 1, 0, 0, 1),
  (yX6_cheats, cX6_cheats, 3, (some .int), 6, 2, 2, 46, 1),
  (yX6_taste, cX6_taste, 1, (some .int), 6, 1, 3, 73, 1),
  (yX6_share, cX6_share, 9, (some .int), 6, 3, 3, 65, 1),
  (yX6_back, cX6_back, 6, (some .int), 6, 6, 3, 70, 1),
  (yX6_odds, cX6_odds, 8, (some .int), 6, 5, 1, 25, 1),
  (yX6_rate, cX6_rate, 3, (some .int), 6, 3, 5, 106, 1),
  (yX6_keep, cX6_keep, 2, (some .int), 6, 2, 1, 22, 1),
  (yX6_again, cX6_again, 2, (some .int), 6, 2, 1, 22, 1)]
def tx_M2 : List tx_Me := [
  (yX6_count, cX6_count, 2, (some .int), 6, 2, 0, 0, 1),
  (yX6_trace, cX6_trace, 1, (some .long), 6, 1, 0, 0, 1),
  (yX6_within, cX6_within, 3, (some .boolean), 6, 3, 0, 0, 0),
  (yX6_copy, cX6_copy, 3, none, 6, 2, 0, 0, 0),
  (yX6_beginAnew, cX6_beginAnew, 2, none, 6, 1, 1, 21, 1),
  (yX6_isDay, cX6_isDay, 2, (some .boolean), 6, 2, 1, 22, 1),
  (yX6_isWork, cX6_isWork, 2, (some .boolean), 6, 2, 1, 22, 1),
  (yX6_isOver, cX6_isOver, 1, (some .boolean), 6, 1, 0, 0, 1),
  (yX6_canBeFed, cX6_canBeFed, 2, (some .boolean), 6, 2, 2, 43, 1),
  (yX6_strokes, cX6_strokes, 2, (some .int), 6, 1, 2, 43, 1),
  (yX6_need, cX6_need, 1, (some .int), 6, 1, 3, 64, 1),
  (yX6_comingBy, cX6_comingBy, 5, (some .int), 6, 2, 2, 43, 1),
  (yX6_bestMenu, cX6_bestMenu, 5, (some .int), 6, 1, 4, 89, 1),
  (yX6_canAllBeFed, cX6_canAllBeFed, 3, (some .boolean), 6, 2, 3, 67, 1),
  (yX6_ways, cX6_ways, 4, (some .int), 6, 2, 0, 0, 0),
  (yX6_power, cX6_power, 4, (some .int), 6, 2, 0, 0, 0),
  (yX6_commonDivisor, cX6_commonDivisor, 6, (some .int), 6, 2, 0, 0, 0),
  (yX6_rateDay, cX6_rateDay, 2, (some .int), 6, 2, 2, 43, 1),
  (yX6_rateWet, cX6_rateWet, 2, (some .int), 6, 2, 3, 64, 1),
  (yX6_rateBlue, cX6_rateBlue, 2, (some .int), 6, 2, 3, 64, 1),
  (yX6_rateSunday, cX6_rateSunday, 2, (some .int), 6, 2, 4, 85, 1),
  (yX6_rateApril, cX6_rateApril, 2, (some .int), 6, 2, 4, 85, 1),
  (yX6_rateMarket, cX6_rateMarket, 2, (some .int), 6, 2, 3, 64, 1),
  (yX7_init, cX7_init, 1, none, 7, 1, 1, 21, 2),
  (yX7_in, cX7_in, 3, (some .boolean), 7, 3, 0, 0, 0),
  (yX7_ones, cX7_ones, 3, (some .int), 7, 1, 0, 0, 0),
  (yX7_type, cX7_type, 2, (some .int), 7, 2, 1, 22, 1),
  (yX7_clear, cX7_clear, 2, (some .int), 7, 1, 0, 0, 1),
  (yX7_letterAt, cX7_letterAt, 2, (some .int), 7, 2, 0, 0, 1),
  (yX7_advances, cX7_advances, 2, none, 7, 1, 1, 22, 1),
  (yX7_isWell, cX7_isWell, 1, (some .boolean), 7, 1, 0, 0, 1),
  (yX7_takes, cX7_takes, 3, (some .int), 7, 2, 2, 43, 1),
  (yX7_number, cX7_number, 3, (some .int), 7, 3, 3, 65, 1),
  (yX7_begins, cX7_begins, 1, none, 7, 1, 0, 0, 1),
  (yX7_mayBegin, cX7_mayBegin, 1, (some .boolean), 7, 1, 0, 0, 1),
  (yX7_readsItem, cX7_readsItem, 3, none, 7, 2, 4, 87, 1),
  (yX7_dairy, cX7_dairy, 3, (some .int), 7, 1, 5, 109, 1),
  (yX7_settles, cX7_settles, 2, none, 7, 1, 0, 0, 1),
  (yX7_isDay, cX7_isDay, 2, (some .boolean), 7, 2, 1, 22, 1),
  (yX7_isWork, cX7_isWork, 2, (some .boolean), 7, 2, 1, 22, 1)]
def tx_M3 : List tx_Me := [
  (yX7_isOver, cX7_isOver, 1, (some .boolean), 7, 1, 0, 0, 1),
  (yX7_isFed, cX7_isFed, 2, (some .boolean), 7, 2, 0, 0, 1),
  (yX7_day, cX7_day, 3, (some .int), 7, 3, 2, 43, 1),
  (yX7_work, cX7_work, 3, (some .int), 7, 3, 2, 43, 1),
  (yX7_strokes, cX7_strokes, 2, (some .int), 7, 1, 1, 20, 1),
  (yX7_freshAll, cX7_freshAll, 1, (some .int), 7, 1, 0, 0, 1),
  (yX7_need, cX7_need, 2, (some .int), 7, 1, 2, 41, 1),
  (yX7_now, cX7_now, 2, (some .int), 7, 2, 3, 62, 1),
  (yX7_fresh, cX7_fresh, 2, (some .int), 7, 2, 1, 22, 1),
  (yX7_notes, cX7_notes, 2, none, 7, 1, 0, 0, 1),
  (yX7_stands, cX7_stands, 1, (some .int), 7, 1, 1, 21, 1),
  (yX7_beats, cX7_beats, 3, (some .int), 7, 2, 2, 41, 1),
  (yX7_takesFresh, cX7_takesFresh, 5, (some .int), 7, 2, 0, 0, 1),
  (yX7_salts, cX7_salts, 2, (some .int), 7, 2, 1, 24, 1),
  (yX7_quarrels, cX7_quarrels, 2, (some .int), 7, 2, 2, 41, 1),
  (yX7_feeds, cX7_feeds, 2, (some .int), 7, 2, 2, 43, 1),
  (yX7_night, cX7_night, 1, (some .int), 7, 1, 1, 21, 1),
  (yX7_undo, cX7_undo, 2, (some .int), 7, 1, 0, 0, 1),
  (yX7_counts, cX7_counts, 4, none, 7, 1, 1, 20, 1),
  (yX7_coming, cX7_coming, 2, (some .int), 7, 2, 2, 43, 1),
  (yX7_worthOf, cX7_worthOf, 6, (some .int), 7, 2, 1, 21, 1),
  (yX7_menu, cX7_menu, 6, (some .int), 7, 2, 2, 46, 1),
  (yX7_allDairies, cX7_allDairies, 1, (some .int), 7, 1, 0, 0, 1),
  (yX7_tasted, cX7_tasted, 3, (some .int), 7, 3, 1, 22, 1),
  (yX7_forget, cX7_forget, 2, (some .int), 7, 1, 0, 0, 1),
  (yX7_canCheat, cX7_canCheat, 4, (some .boolean), 7, 2, 0, 0, 1),
  (yX7_cheats, cX7_cheats, 6, (some .int), 7, 2, 1, 23, 1),
  (yX7_taste, cX7_taste, 7, (some .int), 7, 1, 1, 23, 1),
  (yX7_share, cX7_share, 9, (some .int), 7, 3, 1, 22, 1),
  (yX7_back, cX7_back, 11, (some .int), 7, 6, 1, 22, 1),
  (yX7_power, cX7_power, 4, (some .int), 7, 2, 0, 0, 0),
  (yX7_gcd, cX7_gcd, 5, (some .int), 7, 2, 0, 0, 0),
  (yX7_odds, cX7_odds, 8, (some .int), 7, 5, 1, 24, 1),
  (yX7_rate, cX7_rate, 5, (some .int), 7, 3, 2, 43, 1),
  (yX7_keep, cX7_keep, 3, (some .int), 7, 2, 1, 22, 1),
  (yX7_again, cX7_again, 3, (some .int), 7, 2, 1, 22, 1),
  (yX7_count, cX7_count, 2, (some .int), 7, 2, 1, 22, 1),
  (yX7_trace, cX7_trace, 1, (some .long), 7, 1, 0, 0, 1),
  (yJ6_bitCount_0f7a4, cJ6_bitCount_0f7a4, 1, (some .int), 9, 1, 0, 0, 0),
  (yL_law, code, 4, (some .boolean), 8, 1, 6, 138, 0)]
def tx_m (k : Nat) : tx_Me := (match k / 40 with
  | 0 => tx_M0
  | 1 => tx_M1
  | 2 => tx_M2
  | _ => tx_M3).getD (k % 40) (yL_law, code, 4, none, 8, 1, 0, 0, 0)
def yO (k : Nat) := (tx_m k).1
def bO (k : Nat) := (tx_m k).2.1
def lO (k : Nat) := (tx_m k).2.2.1
def rO (k : Nat) := (tx_m k).2.2.2.1
def oO (k : Nat) := (tx_m k).2.2.2.2.1
def nA (k : Nat) := (tx_m k).2.2.2.2.2.1
def fO (k : Nat) := (tx_m k).2.2.2.2.2.2.1
def qO (k : Nat) := (tx_m k).2.2.2.2.2.2.2.1
def kO (k : Nat) := (tx_m k).2.2.2.2.2.2.2.2
/-- what the words say of a method that is called -/
def tx_ok (k : Nat) : Prop := Cond.code (yO k) (bO k) (lO k) (rO k) ∈ tx_B ∧ Cond.initialized (yO k).cls ∈ tx_B ∧ (plainName (yO k).cls = true ∧ (yO k).cls ≠ "java/lang/invoke/MethodHandle" ∧ (yO k).cls ≠ "java/lang/invoke/VarHandle") ∧ (parseMethodDescriptor (yO k).desc).map (fun d => d.parameters.length) = some (if kO k = 0 then nA k else nA k - 1) ∧ (yO k).cls = tx_R (oO k) ∧
  (kO k = 0 → Cond.static (yO k) ∈ tx_B) ∧ (kO k ≠ 0 → Cond.instanceMethod (yO k) ∈ tx_B ∧ oO k < 8 ∧ 1 ≤ nA k) ∧ (kO k = 1 → Cond.selects (yO k).cls (yO k) (yO k) ∈ tx_B) ∧ (kO k = 2 → (yO k).name = "<init>" ∧ rO k = none) ∧ nA k ≤ lO k
theorem tx_k0 : tx_ok 0 := ⟨(bg_1 (List.mem_of_getElem? (i := 91) rfl) rfl), (bg_1 (List.mem_of_getElem? (i := 4) rfl) rfl), ⟨by decide +kernel, by decide +kernel, by decide +kernel⟩, by decide +kernel, rfl, (fun h => absurd h (by decide)), fun _ => ⟨(bg_1 (List.mem_of_getElem? (i := 90) rfl) rfl), by decide, by decide⟩, (fun h => absurd h (by decide)), fun _ => ⟨rfl, rfl⟩, by decide⟩
theorem tx_k1 : tx_ok 1 := ⟨(bg_2 (List.mem_of_getElem? (i := 77) rfl) rfl), (bg_1 (List.mem_of_getElem? (i := 4) rfl) rfl), ⟨by decide +kernel, by decide +kernel, by decide +kernel⟩, by decide +kernel, rfl, (fun h => absurd h (by decide)), fun _ => ⟨(bg_2 (List.mem_of_getElem? (i := 75) rfl) rfl), by decide, by decide⟩, fun _ => (bg_2 (List.mem_of_getElem? (i := 76) rfl) rfl), (fun h => absurd h (by decide)), by decide⟩
theorem tx_k2 : tx_ok 2 := ⟨(bg_2 (List.mem_of_getElem? (i := 117) rfl) rfl), (bg_1 (List.mem_of_getElem? (i := 4) rfl) rfl), ⟨by decide +kernel, by decide +kernel, by decide +kernel⟩, by decide +kernel, rfl, (fun h => absurd h (by decide)), fun _ => ⟨(bg_2 (List.mem_of_getElem? (i := 115) rfl) rfl), by decide, by decide⟩, fun _ => (bg_2 (List.mem_of_getElem? (i := 116) rfl) rfl), (fun h => absurd h (by decide)), by decide⟩
theorem tx_k3 : tx_ok 3 := ⟨(bg_2 (List.mem_of_getElem? (i := 125) rfl) rfl), (bg_1 (List.mem_of_getElem? (i := 4) rfl) rfl), ⟨by decide +kernel, by decide +kernel, by decide +kernel⟩, by decide +kernel, rfl, (fun h => absurd h (by decide)), fun _ => ⟨(bg_2 (List.mem_of_getElem? (i := 123) rfl) rfl), by decide, by decide⟩, fun _ => (bg_2 (List.mem_of_getElem? (i := 124) rfl) rfl), (fun h => absurd h (by decide)), by decide⟩
theorem tx_k4 : tx_ok 4 := ⟨(bg_2 (List.mem_of_getElem? (i := 195) rfl) rfl), (bg_1 (List.mem_of_getElem? (i := 4) rfl) rfl), ⟨by decide +kernel, by decide +kernel, by decide +kernel⟩, by decide +kernel, rfl, (fun h => absurd h (by decide)), fun _ => ⟨(bg_2 (List.mem_of_getElem? (i := 193) rfl) rfl), by decide, by decide⟩, fun _ => (bg_2 (List.mem_of_getElem? (i := 194) rfl) rfl), (fun h => absurd h (by decide)), by decide⟩
theorem tx_k5 : tx_ok 5 := ⟨(bg_2 (List.mem_of_getElem? (i := 170) rfl) rfl), (bg_1 (List.mem_of_getElem? (i := 4) rfl) rfl), ⟨by decide +kernel, by decide +kernel, by decide +kernel⟩, by decide +kernel, rfl, (fun h => absurd h (by decide)), fun _ => ⟨(bg_2 (List.mem_of_getElem? (i := 168) rfl) rfl), by decide, by decide⟩, fun _ => (bg_2 (List.mem_of_getElem? (i := 169) rfl) rfl), (fun h => absurd h (by decide)), by decide⟩
theorem tx_k6 : tx_ok 6 := ⟨(bg_2 (List.mem_of_getElem? (i := 178) rfl) rfl), (bg_1 (List.mem_of_getElem? (i := 4) rfl) rfl), ⟨by decide +kernel, by decide +kernel, by decide +kernel⟩, by decide +kernel, rfl, (fun h => absurd h (by decide)), fun _ => ⟨(bg_2 (List.mem_of_getElem? (i := 176) rfl) rfl), by decide, by decide⟩, fun _ => (bg_2 (List.mem_of_getElem? (i := 177) rfl) rfl), (fun h => absurd h (by decide)), by decide⟩
theorem tx_k7 : tx_ok 7 := ⟨(bg_2 (List.mem_of_getElem? (i := 200) rfl) rfl), (bg_1 (List.mem_of_getElem? (i := 4) rfl) rfl), ⟨by decide +kernel, by decide +kernel, by decide +kernel⟩, by decide +kernel, rfl, (fun h => absurd h (by decide)), fun _ => ⟨(bg_2 (List.mem_of_getElem? (i := 198) rfl) rfl), by decide, by decide⟩, fun _ => (bg_2 (List.mem_of_getElem? (i := 199) rfl) rfl), (fun h => absurd h (by decide)), by decide⟩
theorem tx_k8 : tx_ok 8 := ⟨(bg_2 (List.mem_of_getElem? (i := 209) rfl) rfl), (bg_1 (List.mem_of_getElem? (i := 4) rfl) rfl), ⟨by decide +kernel, by decide +kernel, by decide +kernel⟩, by decide +kernel, rfl, (fun h => absurd h (by decide)), fun _ => ⟨(bg_2 (List.mem_of_getElem? (i := 207) rfl) rfl), by decide, by decide⟩, fun _ => (bg_2 (List.mem_of_getElem? (i := 208) rfl) rfl), (fun h => absurd h (by decide)), by decide⟩
theorem tx_k9 : tx_ok 9 := ⟨(bg_1 (List.mem_of_getElem? (i := 23) rfl) rfl), (bg_1 (List.mem_of_getElem? (i := 2) rfl) rfl), ⟨by decide +kernel, by decide +kernel, by decide +kernel⟩, by decide +kernel, rfl, (fun h => absurd h (by decide)), fun _ => ⟨(bg_1 (List.mem_of_getElem? (i := 22) rfl) rfl), by decide, by decide⟩, (fun h => absurd h (by decide)), fun _ => ⟨rfl, rfl⟩, by decide⟩
theorem tx_k10 : tx_ok 10 := ⟨(bg_1 (List.mem_of_getElem? (i := 234) rfl) rfl), (bg_1 (List.mem_of_getElem? (i := 2) rfl) rfl), ⟨by decide +kernel, by decide +kernel, by decide +kernel⟩, by decide +kernel, rfl, (fun h => absurd h (by decide)), fun _ => ⟨(bg_1 (List.mem_of_getElem? (i := 232) rfl) rfl), by decide, by decide⟩, fun _ => (bg_1 (List.mem_of_getElem? (i := 233) rfl) rfl), (fun h => absurd h (by decide)), by decide⟩
theorem tx_k11 : tx_ok 11 := ⟨(bg_2 (List.mem_of_getElem? (i := 7) rfl) rfl), (bg_1 (List.mem_of_getElem? (i := 2) rfl) rfl), ⟨by decide +kernel, by decide +kernel, by decide +kernel⟩, by decide +kernel, rfl, (fun h => absurd h (by decide)), fun _ => ⟨(bg_2 (List.mem_of_getElem? (i := 5) rfl) rfl), by decide, by decide⟩, fun _ => (bg_2 (List.mem_of_getElem? (i := 6) rfl) rfl), (fun h => absurd h (by decide)), by decide⟩
theorem tx_k12 : tx_ok 12 := ⟨(bg_2 (List.mem_of_getElem? (i := 19) rfl) rfl), (bg_1 (List.mem_of_getElem? (i := 2) rfl) rfl), ⟨by decide +kernel, by decide +kernel, by decide +kernel⟩, by decide +kernel, rfl, (fun h => absurd h (by decide)), fun _ => ⟨(bg_2 (List.mem_of_getElem? (i := 18) rfl) rfl), by decide, by decide⟩, fun _ => (bg_s (q := (yX1_letterAt, 5)) (List.mem_of_getElem? (i := 1) rfl)), (fun h => absurd h (by decide)), by decide⟩
theorem tx_k13 : tx_ok 13 := ⟨(bg_2 (List.mem_of_getElem? (i := 27) rfl) rfl), (bg_1 (List.mem_of_getElem? (i := 2) rfl) rfl), ⟨by decide +kernel, by decide +kernel, by decide +kernel⟩, by decide +kernel, rfl, (fun h => absurd h (by decide)), fun _ => ⟨(bg_2 (List.mem_of_getElem? (i := 26) rfl) rfl), by decide, by decide⟩, fun _ => (bg_s (q := (yX1_isDigit, 5)) (List.mem_of_getElem? (i := 3) rfl)), (fun h => absurd h (by decide)), by decide⟩
theorem tx_k14 : tx_ok 14 := ⟨(bg_2 (List.mem_of_getElem? (i := 15) rfl) rfl), (bg_1 (List.mem_of_getElem? (i := 2) rfl) rfl), ⟨by decide +kernel, by decide +kernel, by decide +kernel⟩, by decide +kernel, rfl, (fun h => absurd h (by decide)), fun _ => ⟨(bg_2 (List.mem_of_getElem? (i := 14) rfl) rfl), by decide, by decide⟩, fun _ => (bg_s (q := (yX1_behindBlanks, 5)) (List.mem_of_getElem? (i := 0) rfl)), (fun h => absurd h (by decide)), by decide⟩
theorem tx_k15 : tx_ok 15 := ⟨(bg_2 (List.mem_of_getElem? (i := 23) rfl) rfl), (bg_1 (List.mem_of_getElem? (i := 2) rfl) rfl), ⟨by decide +kernel, by decide +kernel, by decide +kernel⟩, by decide +kernel, rfl, (fun h => absurd h (by decide)), fun _ => ⟨(bg_2 (List.mem_of_getElem? (i := 22) rfl) rfl), by decide, by decide⟩, fun _ => (bg_s (q := (yX1_behindToken, 5)) (List.mem_of_getElem? (i := 2) rfl)), (fun h => absurd h (by decide)), by decide⟩
theorem tx_k16 : tx_ok 16 := ⟨(bg_2 (List.mem_of_getElem? (i := 31) rfl) rfl), (bg_1 (List.mem_of_getElem? (i := 2) rfl) rfl), ⟨by decide +kernel, by decide +kernel, by decide +kernel⟩, by decide +kernel, rfl, (fun h => absurd h (by decide)), fun _ => ⟨(bg_2 (List.mem_of_getElem? (i := 30) rfl) rfl), by decide, by decide⟩, fun _ => (bg_s (q := (yX1_takesToken, 5)) (List.mem_of_getElem? (i := 4) rfl)), (fun h => absurd h (by decide)), by decide⟩
theorem tx_k17 : tx_ok 17 := ⟨(bg_2 (List.mem_of_getElem? (i := 35) rfl) rfl), (bg_1 (List.mem_of_getElem? (i := 2) rfl) rfl), ⟨by decide +kernel, by decide +kernel, by decide +kernel⟩, by decide +kernel, rfl, (fun h => absurd h (by decide)), fun _ => ⟨(bg_2 (List.mem_of_getElem? (i := 34) rfl) rfl), by decide, by decide⟩, fun _ => (bg_s (q := (yX1_takesNumber, 5)) (List.mem_of_getElem? (i := 5) rfl)), (fun h => absurd h (by decide)), by decide⟩
theorem tx_k18 : tx_ok 18 := ⟨(bg_2 (List.mem_of_getElem? (i := 48) rfl) rfl), (bg_1 (List.mem_of_getElem? (i := 2) rfl) rfl), ⟨by decide +kernel, by decide +kernel, by decide +kernel⟩, by decide +kernel, rfl, (fun h => absurd h (by decide)), fun _ => ⟨(bg_2 (List.mem_of_getElem? (i := 47) rfl) rfl), by decide, by decide⟩, fun _ => (bg_s (q := (yX1_closesItem, 5)) (List.mem_of_getElem? (i := 6) rfl)), (fun h => absurd h (by decide)), by decide⟩
theorem tx_k19 : tx_ok 19 := ⟨(bg_2 (List.mem_of_getElem? (i := 38) rfl) rfl), (bg_1 (List.mem_of_getElem? (i := 2) rfl) rfl), ⟨by decide +kernel, by decide +kernel, by decide +kernel⟩, by decide +kernel, rfl, fun _ => (bg_2 (List.mem_of_getElem? (i := 37) rfl) rfl), (fun h => absurd h (by decide)), (fun h => absurd h (by decide)), (fun h => absurd h (by decide)), by decide⟩
theorem tx_k20 : tx_ok 20 := ⟨(bg_2 (List.mem_of_getElem? (i := 41) rfl) rfl), (bg_1 (List.mem_of_getElem? (i := 2) rfl) rfl), ⟨by decide +kernel, by decide +kernel, by decide +kernel⟩, by decide +kernel, rfl, fun _ => (bg_2 (List.mem_of_getElem? (i := 40) rfl) rfl), (fun h => absurd h (by decide)), (fun h => absurd h (by decide)), (fun h => absurd h (by decide)), by decide⟩
theorem tx_k21 : tx_ok 21 := ⟨(bg_2 (List.mem_of_getElem? (i := 44) rfl) rfl), (bg_1 (List.mem_of_getElem? (i := 2) rfl) rfl), ⟨by decide +kernel, by decide +kernel, by decide +kernel⟩, by decide +kernel, rfl, fun _ => (bg_2 (List.mem_of_getElem? (i := 43) rfl) rfl), (fun h => absurd h (by decide)), (fun h => absurd h (by decide)), (fun h => absurd h (by decide)), by decide⟩
theorem tx_k22 : tx_ok 22 := ⟨(bg_1 (List.mem_of_getElem? (i := 138) rfl) rfl), (bg_1 (List.mem_of_getElem? (i := 5) rfl) rfl), ⟨by decide +kernel, by decide +kernel, by decide +kernel⟩, by decide +kernel, rfl, (fun h => absurd h (by decide)), fun _ => ⟨(bg_1 (List.mem_of_getElem? (i := 137) rfl) rfl), by decide, by decide⟩, (fun h => absurd h (by decide)), fun _ => ⟨rfl, rfl⟩, by decide⟩
theorem tx_k23 : tx_ok 23 := ⟨(bg_2 (List.mem_of_getElem? (i := 155) rfl) rfl), (bg_1 (List.mem_of_getElem? (i := 5) rfl) rfl), ⟨by decide +kernel, by decide +kernel, by decide +kernel⟩, by decide +kernel, rfl, (fun h => absurd h (by decide)), fun _ => ⟨(bg_2 (List.mem_of_getElem? (i := 153) rfl) rfl), by decide, by decide⟩, fun _ => (bg_2 (List.mem_of_getElem? (i := 154) rfl) rfl), (fun h => absurd h (by decide)), by decide⟩
theorem tx_k24 : tx_ok 24 := ⟨(bg_2 (List.mem_of_getElem? (i := 217) rfl) rfl), (bg_1 (List.mem_of_getElem? (i := 5) rfl) rfl), ⟨by decide +kernel, by decide +kernel, by decide +kernel⟩, by decide +kernel, rfl, (fun h => absurd h (by decide)), fun _ => ⟨(bg_2 (List.mem_of_getElem? (i := 215) rfl) rfl), by decide, by decide⟩, fun _ => (bg_2 (List.mem_of_getElem? (i := 216) rfl) rfl), (fun h => absurd h (by decide)), by decide⟩
theorem tx_k25 : tx_ok 25 := ⟨(bg_1 (List.mem_of_getElem? (i := 47) rfl) rfl), (bg_1 (List.mem_of_getElem? (i := 3) rfl) rfl), ⟨by decide +kernel, by decide +kernel, by decide +kernel⟩, by decide +kernel, rfl, (fun h => absurd h (by decide)), fun _ => ⟨(bg_1 (List.mem_of_getElem? (i := 46) rfl) rfl), by decide, by decide⟩, (fun h => absurd h (by decide)), fun _ => ⟨rfl, rfl⟩, by decide⟩
theorem tx_k26 : tx_ok 26 := ⟨(bg_2 (List.mem_of_getElem? (i := 11) rfl) rfl), (bg_1 (List.mem_of_getElem? (i := 3) rfl) rfl), ⟨by decide +kernel, by decide +kernel, by decide +kernel⟩, by decide +kernel, rfl, (fun h => absurd h (by decide)), fun _ => ⟨(bg_2 (List.mem_of_getElem? (i := 9) rfl) rfl), by decide, by decide⟩, fun _ => (bg_2 (List.mem_of_getElem? (i := 10) rfl) rfl), (fun h => absurd h (by decide)), by decide⟩
theorem tx_k27 : tx_ok 27 := ⟨(bg_2 (List.mem_of_getElem? (i := 69) rfl) rfl), (bg_1 (List.mem_of_getElem? (i := 3) rfl) rfl), ⟨by decide +kernel, by decide +kernel, by decide +kernel⟩, by decide +kernel, rfl, (fun h => absurd h (by decide)), fun _ => ⟨(bg_2 (List.mem_of_getElem? (i := 67) rfl) rfl), by decide, by decide⟩, fun _ => (bg_2 (List.mem_of_getElem? (i := 68) rfl) rfl), (fun h => absurd h (by decide)), by decide⟩
theorem tx_k28 : tx_ok 28 := ⟨(bg_2 (List.mem_of_getElem? (i := 52) rfl) rfl), (bg_1 (List.mem_of_getElem? (i := 3) rfl) rfl), ⟨by decide +kernel, by decide +kernel, by decide +kernel⟩, by decide +kernel, rfl, (fun h => absurd h (by decide)), fun _ => ⟨(bg_2 (List.mem_of_getElem? (i := 50) rfl) rfl), by decide, by decide⟩, fun _ => (bg_2 (List.mem_of_getElem? (i := 51) rfl) rfl), (fun h => absurd h (by decide)), by decide⟩
theorem tx_k29 : tx_ok 29 := ⟨(bg_2 (List.mem_of_getElem? (i := 57) rfl) rfl), (bg_1 (List.mem_of_getElem? (i := 3) rfl) rfl), ⟨by decide +kernel, by decide +kernel, by decide +kernel⟩, by decide +kernel, rfl, (fun h => absurd h (by decide)), fun _ => ⟨(bg_2 (List.mem_of_getElem? (i := 55) rfl) rfl), by decide, by decide⟩, fun _ => (bg_2 (List.mem_of_getElem? (i := 56) rfl) rfl), (fun h => absurd h (by decide)), by decide⟩
theorem tx_k30 : tx_ok 30 := ⟨(bg_2 (List.mem_of_getElem? (i := 65) rfl) rfl), (bg_1 (List.mem_of_getElem? (i := 3) rfl) rfl), ⟨by decide +kernel, by decide +kernel, by decide +kernel⟩, by decide +kernel, rfl, (fun h => absurd h (by decide)), fun _ => ⟨(bg_2 (List.mem_of_getElem? (i := 63) rfl) rfl), by decide, by decide⟩, fun _ => (bg_2 (List.mem_of_getElem? (i := 64) rfl) rfl), (fun h => absurd h (by decide)), by decide⟩
theorem tx_k31 : tx_ok 31 := ⟨(bg_2 (List.mem_of_getElem? (i := 61) rfl) rfl), (bg_1 (List.mem_of_getElem? (i := 3) rfl) rfl), ⟨by decide +kernel, by decide +kernel, by decide +kernel⟩, by decide +kernel, rfl, (fun h => absurd h (by decide)), fun _ => ⟨(bg_2 (List.mem_of_getElem? (i := 59) rfl) rfl), by decide, by decide⟩, fun _ => (bg_2 (List.mem_of_getElem? (i := 60) rfl) rfl), (fun h => absurd h (by decide)), by decide⟩
theorem tx_k32 : tx_ok 32 := ⟨(bg_2 (List.mem_of_getElem? (i := 89) rfl) rfl), (bg_1 (List.mem_of_getElem? (i := 3) rfl) rfl), ⟨by decide +kernel, by decide +kernel, by decide +kernel⟩, by decide +kernel, rfl, (fun h => absurd h (by decide)), fun _ => ⟨(bg_2 (List.mem_of_getElem? (i := 87) rfl) rfl), by decide, by decide⟩, fun _ => (bg_2 (List.mem_of_getElem? (i := 88) rfl) rfl), (fun h => absurd h (by decide)), by decide⟩
theorem tx_k33 : tx_ok 33 := ⟨(bg_2 (List.mem_of_getElem? (i := 93) rfl) rfl), (bg_1 (List.mem_of_getElem? (i := 3) rfl) rfl), ⟨by decide +kernel, by decide +kernel, by decide +kernel⟩, by decide +kernel, rfl, (fun h => absurd h (by decide)), fun _ => ⟨(bg_2 (List.mem_of_getElem? (i := 91) rfl) rfl), by decide, by decide⟩, fun _ => (bg_2 (List.mem_of_getElem? (i := 92) rfl) rfl), (fun h => absurd h (by decide)), by decide⟩
theorem tx_k34 : tx_ok 34 := ⟨(bg_2 (List.mem_of_getElem? (i := 105) rfl) rfl), (bg_1 (List.mem_of_getElem? (i := 3) rfl) rfl), ⟨by decide +kernel, by decide +kernel, by decide +kernel⟩, by decide +kernel, rfl, (fun h => absurd h (by decide)), fun _ => ⟨(bg_2 (List.mem_of_getElem? (i := 103) rfl) rfl), by decide, by decide⟩, fun _ => (bg_2 (List.mem_of_getElem? (i := 104) rfl) rfl), (fun h => absurd h (by decide)), by decide⟩
theorem tx_k35 : tx_ok 35 := ⟨(bg_2 (List.mem_of_getElem? (i := 109) rfl) rfl), (bg_1 (List.mem_of_getElem? (i := 3) rfl) rfl), ⟨by decide +kernel, by decide +kernel, by decide +kernel⟩, by decide +kernel, rfl, (fun h => absurd h (by decide)), fun _ => ⟨(bg_2 (List.mem_of_getElem? (i := 107) rfl) rfl), by decide, by decide⟩, fun _ => (bg_2 (List.mem_of_getElem? (i := 108) rfl) rfl), (fun h => absurd h (by decide)), by decide⟩
theorem tx_k36 : tx_ok 36 := ⟨(bg_2 (List.mem_of_getElem? (i := 113) rfl) rfl), (bg_1 (List.mem_of_getElem? (i := 3) rfl) rfl), ⟨by decide +kernel, by decide +kernel, by decide +kernel⟩, by decide +kernel, rfl, (fun h => absurd h (by decide)), fun _ => ⟨(bg_2 (List.mem_of_getElem? (i := 111) rfl) rfl), by decide, by decide⟩, fun _ => (bg_2 (List.mem_of_getElem? (i := 112) rfl) rfl), (fun h => absurd h (by decide)), by decide⟩
theorem tx_k37 : tx_ok 37 := ⟨(bg_3 (List.mem_of_getElem? (i := 77) rfl) rfl), (bg_1 (List.mem_of_getElem? (i := 3) rfl) rfl), ⟨by decide +kernel, by decide +kernel, by decide +kernel⟩, by decide +kernel, rfl, (fun h => absurd h (by decide)), fun _ => ⟨(bg_3 (List.mem_of_getElem? (i := 75) rfl) rfl), by decide, by decide⟩, fun _ => (bg_3 (List.mem_of_getElem? (i := 76) rfl) rfl), (fun h => absurd h (by decide)), by decide⟩
theorem tx_k38 : tx_ok 38 := ⟨(bg_3 (List.mem_of_getElem? (i := 73) rfl) rfl), (bg_1 (List.mem_of_getElem? (i := 3) rfl) rfl), ⟨by decide +kernel, by decide +kernel, by decide +kernel⟩, by decide +kernel, rfl, (fun h => absurd h (by decide)), fun _ => ⟨(bg_3 (List.mem_of_getElem? (i := 71) rfl) rfl), by decide, by decide⟩, fun _ => (bg_3 (List.mem_of_getElem? (i := 72) rfl) rfl), (fun h => absurd h (by decide)), by decide⟩
theorem tx_k39 : tx_ok 39 := ⟨(bg_2 (List.mem_of_getElem? (i := 237) rfl) rfl), (bg_1 (List.mem_of_getElem? (i := 3) rfl) rfl), ⟨by decide +kernel, by decide +kernel, by decide +kernel⟩, by decide +kernel, rfl, (fun h => absurd h (by decide)), fun _ => ⟨(bg_2 (List.mem_of_getElem? (i := 235) rfl) rfl), by decide, by decide⟩, fun _ => (bg_2 (List.mem_of_getElem? (i := 236) rfl) rfl), (fun h => absurd h (by decide)), by decide⟩
theorem tx_k40 : tx_ok 40 := ⟨(bg_3 (List.mem_of_getElem? (i := 6) rfl) rfl), (bg_1 (List.mem_of_getElem? (i := 3) rfl) rfl), ⟨by decide +kernel, by decide +kernel, by decide +kernel⟩, by decide +kernel, rfl, (fun h => absurd h (by decide)), fun _ => ⟨(bg_3 (List.mem_of_getElem? (i := 4) rfl) rfl), by decide, by decide⟩, fun _ => (bg_3 (List.mem_of_getElem? (i := 5) rfl) rfl), (fun h => absurd h (by decide)), by decide⟩
theorem tx_k41 : tx_ok 41 := ⟨(bg_3 (List.mem_of_getElem? (i := 16) rfl) rfl), (bg_1 (List.mem_of_getElem? (i := 3) rfl) rfl), ⟨by decide +kernel, by decide +kernel, by decide +kernel⟩, by decide +kernel, rfl, (fun h => absurd h (by decide)), fun _ => ⟨(bg_3 (List.mem_of_getElem? (i := 14) rfl) rfl), by decide, by decide⟩, fun _ => (bg_3 (List.mem_of_getElem? (i := 15) rfl) rfl), (fun h => absurd h (by decide)), by decide⟩
theorem tx_k42 : tx_ok 42 := ⟨(bg_1 (List.mem_of_getElem? (i := 158) rfl) rfl), (bg_1 (List.mem_of_getElem? (i := 6) rfl) rfl), ⟨by decide +kernel, by decide +kernel, by decide +kernel⟩, by decide +kernel, rfl, (fun h => absurd h (by decide)), fun _ => ⟨(bg_1 (List.mem_of_getElem? (i := 157) rfl) rfl), by decide, by decide⟩, (fun h => absurd h (by decide)), fun _ => ⟨rfl, rfl⟩, by decide⟩
theorem tx_k43 : tx_ok 43 := ⟨(bg_3 (List.mem_of_getElem? (i := 20) rfl) rfl), (bg_1 (List.mem_of_getElem? (i := 6) rfl) rfl), ⟨by decide +kernel, by decide +kernel, by decide +kernel⟩, by decide +kernel, rfl, (fun h => absurd h (by decide)), fun _ => ⟨(bg_3 (List.mem_of_getElem? (i := 18) rfl) rfl), by decide, by decide⟩, fun _ => (bg_3 (List.mem_of_getElem? (i := 19) rfl) rfl), (fun h => absurd h (by decide)), by decide⟩
theorem tx_k44 : tx_ok 44 := ⟨(bg_3 (List.mem_of_getElem? (i := 37) rfl) rfl), (bg_1 (List.mem_of_getElem? (i := 6) rfl) rfl), ⟨by decide +kernel, by decide +kernel, by decide +kernel⟩, by decide +kernel, rfl, (fun h => absurd h (by decide)), fun _ => ⟨(bg_3 (List.mem_of_getElem? (i := 36) rfl) rfl), by decide, by decide⟩, fun _ => (bg_s (q := (yX4_canBe, 3)) (List.mem_of_getElem? (i := 17) rfl)), (fun h => absurd h (by decide)), by decide⟩
theorem tx_k45 : tx_ok 45 := ⟨(bg_3 (List.mem_of_getElem? (i := 33) rfl) rfl), (bg_1 (List.mem_of_getElem? (i := 6) rfl) rfl), ⟨by decide +kernel, by decide +kernel, by decide +kernel⟩, by decide +kernel, rfl, (fun h => absurd h (by decide)), fun _ => ⟨(bg_3 (List.mem_of_getElem? (i := 31) rfl) rfl), by decide, by decide⟩, fun _ => (bg_3 (List.mem_of_getElem? (i := 32) rfl) rfl), (fun h => absurd h (by decide)), by decide⟩
theorem tx_k46 : tx_ok 46 := ⟨(bg_3 (List.mem_of_getElem? (i := 41) rfl) rfl), (bg_1 (List.mem_of_getElem? (i := 6) rfl) rfl), ⟨by decide +kernel, by decide +kernel, by decide +kernel⟩, by decide +kernel, rfl, (fun h => absurd h (by decide)), fun _ => ⟨(bg_3 (List.mem_of_getElem? (i := 39) rfl) rfl), by decide, by decide⟩, fun _ => (bg_3 (List.mem_of_getElem? (i := 40) rfl) rfl), (fun h => absurd h (by decide)), by decide⟩
theorem tx_k47 : tx_ok 47 := ⟨(bg_3 (List.mem_of_getElem? (i := 45) rfl) rfl), (bg_1 (List.mem_of_getElem? (i := 6) rfl) rfl), ⟨by decide +kernel, by decide +kernel, by decide +kernel⟩, by decide +kernel, rfl, (fun h => absurd h (by decide)), fun _ => ⟨(bg_3 (List.mem_of_getElem? (i := 43) rfl) rfl), by decide, by decide⟩, fun _ => (bg_3 (List.mem_of_getElem? (i := 44) rfl) rfl), (fun h => absurd h (by decide)), by decide⟩
theorem tx_k48 : tx_ok 48 := ⟨(bg_3 (List.mem_of_getElem? (i := 59) rfl) rfl), (bg_1 (List.mem_of_getElem? (i := 6) rfl) rfl), ⟨by decide +kernel, by decide +kernel, by decide +kernel⟩, by decide +kernel, rfl, (fun h => absurd h (by decide)), fun _ => ⟨(bg_3 (List.mem_of_getElem? (i := 57) rfl) rfl), by decide, by decide⟩, fun _ => (bg_3 (List.mem_of_getElem? (i := 58) rfl) rfl), (fun h => absurd h (by decide)), by decide⟩
theorem tx_k49 : tx_ok 49 := ⟨(bg_3 (List.mem_of_getElem? (i := 64) rfl) rfl), (bg_1 (List.mem_of_getElem? (i := 6) rfl) rfl), ⟨by decide +kernel, by decide +kernel, by decide +kernel⟩, by decide +kernel, rfl, (fun h => absurd h (by decide)), fun _ => ⟨(bg_3 (List.mem_of_getElem? (i := 63) rfl) rfl), by decide, by decide⟩, fun _ => (bg_s (q := (yX4_tastingOf, 3)) (List.mem_of_getElem? (i := 18) rfl)), (fun h => absurd h (by decide)), by decide⟩
theorem tx_k50 : tx_ok 50 := ⟨(bg_1 (List.mem_of_getElem? (i := 176) rfl) rfl), (bg_1 (List.mem_of_getElem? (i := 7) rfl) rfl), ⟨by decide +kernel, by decide +kernel, by decide +kernel⟩, by decide +kernel, rfl, (fun h => absurd h (by decide)), fun _ => ⟨(bg_1 (List.mem_of_getElem? (i := 175) rfl) rfl), by decide, by decide⟩, (fun h => absurd h (by decide)), fun _ => ⟨rfl, rfl⟩, by decide⟩
theorem tx_k51 : tx_ok 51 := ⟨(bg_3 (List.mem_of_getElem? (i := 86) rfl) rfl), (bg_1 (List.mem_of_getElem? (i := 7) rfl) rfl), ⟨by decide +kernel, by decide +kernel, by decide +kernel⟩, by decide +kernel, rfl, (fun h => absurd h (by decide)), fun _ => ⟨(bg_3 (List.mem_of_getElem? (i := 84) rfl) rfl), by decide, by decide⟩, fun _ => (bg_3 (List.mem_of_getElem? (i := 85) rfl) rfl), (fun h => absurd h (by decide)), by decide⟩
theorem tx_k52 : tx_ok 52 := ⟨(bg_3 (List.mem_of_getElem? (i := 90) rfl) rfl), (bg_1 (List.mem_of_getElem? (i := 7) rfl) rfl), ⟨by decide +kernel, by decide +kernel, by decide +kernel⟩, by decide +kernel, rfl, (fun h => absurd h (by decide)), fun _ => ⟨(bg_3 (List.mem_of_getElem? (i := 89) rfl) rfl), by decide, by decide⟩, fun _ => (bg_s (q := (yX5_comeTo, 4)) (List.mem_of_getElem? (i := 19) rfl)), (fun h => absurd h (by decide)), by decide⟩
theorem tx_k53 : tx_ok 53 := ⟨(bg_1 (List.mem_of_getElem? (i := 15) rfl) rfl), (bg_1 (List.mem_of_getElem? (i := 1) rfl) rfl), ⟨by decide +kernel, by decide +kernel, by decide +kernel⟩, by decide +kernel, rfl, (fun h => absurd h (by decide)), fun _ => ⟨(bg_1 (List.mem_of_getElem? (i := 14) rfl) rfl), by decide, by decide⟩, (fun h => absurd h (by decide)), fun _ => ⟨rfl, rfl⟩, by decide⟩
theorem tx_k54 : tx_ok 54 := ⟨(bg_1 (List.mem_of_getElem? (i := 227) rfl) rfl), (bg_1 (List.mem_of_getElem? (i := 1) rfl) rfl), ⟨by decide +kernel, by decide +kernel, by decide +kernel⟩, by decide +kernel, rfl, (fun h => absurd h (by decide)), fun _ => ⟨(bg_1 (List.mem_of_getElem? (i := 225) rfl) rfl), by decide, by decide⟩, fun _ => (bg_1 (List.mem_of_getElem? (i := 226) rfl) rfl), (fun h => absurd h (by decide)), by decide⟩
theorem tx_k55 : tx_ok 55 := ⟨(bg_1 (List.mem_of_getElem? (i := 239) rfl) rfl), (bg_1 (List.mem_of_getElem? (i := 1) rfl) rfl), ⟨by decide +kernel, by decide +kernel, by decide +kernel⟩, by decide +kernel, rfl, (fun h => absurd h (by decide)), fun _ => ⟨(bg_1 (List.mem_of_getElem? (i := 237) rfl) rfl), by decide, by decide⟩, fun _ => (bg_1 (List.mem_of_getElem? (i := 238) rfl) rfl), (fun h => absurd h (by decide)), by decide⟩
theorem tx_k56 : tx_ok 56 := ⟨(bg_2 (List.mem_of_getElem? (i := 3) rfl) rfl), (bg_1 (List.mem_of_getElem? (i := 1) rfl) rfl), ⟨by decide +kernel, by decide +kernel, by decide +kernel⟩, by decide +kernel, rfl, (fun h => absurd h (by decide)), fun _ => ⟨(bg_2 (List.mem_of_getElem? (i := 1) rfl) rfl), by decide, by decide⟩, fun _ => (bg_2 (List.mem_of_getElem? (i := 2) rfl) rfl), (fun h => absurd h (by decide)), by decide⟩
theorem tx_k57 : tx_ok 57 := ⟨(bg_2 (List.mem_of_getElem? (i := 81) rfl) rfl), (bg_1 (List.mem_of_getElem? (i := 1) rfl) rfl), ⟨by decide +kernel, by decide +kernel, by decide +kernel⟩, by decide +kernel, rfl, (fun h => absurd h (by decide)), fun _ => ⟨(bg_2 (List.mem_of_getElem? (i := 79) rfl) rfl), by decide, by decide⟩, fun _ => (bg_2 (List.mem_of_getElem? (i := 80) rfl) rfl), (fun h => absurd h (by decide)), by decide⟩
theorem tx_k58 : tx_ok 58 := ⟨(bg_2 (List.mem_of_getElem? (i := 97) rfl) rfl), (bg_1 (List.mem_of_getElem? (i := 1) rfl) rfl), ⟨by decide +kernel, by decide +kernel, by decide +kernel⟩, by decide +kernel, rfl, (fun h => absurd h (by decide)), fun _ => ⟨(bg_2 (List.mem_of_getElem? (i := 95) rfl) rfl), by decide, by decide⟩, fun _ => (bg_2 (List.mem_of_getElem? (i := 96) rfl) rfl), (fun h => absurd h (by decide)), by decide⟩
theorem tx_k59 : tx_ok 59 := ⟨(bg_2 (List.mem_of_getElem? (i := 121) rfl) rfl), (bg_1 (List.mem_of_getElem? (i := 1) rfl) rfl), ⟨by decide +kernel, by decide +kernel, by decide +kernel⟩, by decide +kernel, rfl, (fun h => absurd h (by decide)), fun _ => ⟨(bg_2 (List.mem_of_getElem? (i := 119) rfl) rfl), by decide, by decide⟩, fun _ => (bg_2 (List.mem_of_getElem? (i := 120) rfl) rfl), (fun h => absurd h (by decide)), by decide⟩
theorem tx_k60 : tx_ok 60 := ⟨(bg_2 (List.mem_of_getElem? (i := 147) rfl) rfl), (bg_1 (List.mem_of_getElem? (i := 1) rfl) rfl), ⟨by decide +kernel, by decide +kernel, by decide +kernel⟩, by decide +kernel, rfl, (fun h => absurd h (by decide)), fun _ => ⟨(bg_2 (List.mem_of_getElem? (i := 145) rfl) rfl), by decide, by decide⟩, fun _ => (bg_2 (List.mem_of_getElem? (i := 146) rfl) rfl), (fun h => absurd h (by decide)), by decide⟩
theorem tx_k61 : tx_ok 61 := ⟨(bg_2 (List.mem_of_getElem? (i := 151) rfl) rfl), (bg_1 (List.mem_of_getElem? (i := 1) rfl) rfl), ⟨by decide +kernel, by decide +kernel, by decide +kernel⟩, by decide +kernel, rfl, (fun h => absurd h (by decide)), fun _ => ⟨(bg_2 (List.mem_of_getElem? (i := 149) rfl) rfl), by decide, by decide⟩, fun _ => (bg_2 (List.mem_of_getElem? (i := 150) rfl) rfl), (fun h => absurd h (by decide)), by decide⟩
theorem tx_k62 : tx_ok 62 := ⟨(bg_2 (List.mem_of_getElem? (i := 166) rfl) rfl), (bg_1 (List.mem_of_getElem? (i := 1) rfl) rfl), ⟨by decide +kernel, by decide +kernel, by decide +kernel⟩, by decide +kernel, rfl, (fun h => absurd h (by decide)), fun _ => ⟨(bg_2 (List.mem_of_getElem? (i := 164) rfl) rfl), by decide, by decide⟩, fun _ => (bg_2 (List.mem_of_getElem? (i := 165) rfl) rfl), (fun h => absurd h (by decide)), by decide⟩
theorem tx_k63 : tx_ok 63 := ⟨(bg_2 (List.mem_of_getElem? (i := 174) rfl) rfl), (bg_1 (List.mem_of_getElem? (i := 1) rfl) rfl), ⟨by decide +kernel, by decide +kernel, by decide +kernel⟩, by decide +kernel, rfl, (fun h => absurd h (by decide)), fun _ => ⟨(bg_2 (List.mem_of_getElem? (i := 172) rfl) rfl), by decide, by decide⟩, fun _ => (bg_2 (List.mem_of_getElem? (i := 173) rfl) rfl), (fun h => absurd h (by decide)), by decide⟩
theorem tx_k64 : tx_ok 64 := ⟨(bg_2 (List.mem_of_getElem? (i := 183) rfl) rfl), (bg_1 (List.mem_of_getElem? (i := 1) rfl) rfl), ⟨by decide +kernel, by decide +kernel, by decide +kernel⟩, by decide +kernel, rfl, (fun h => absurd h (by decide)), fun _ => ⟨(bg_2 (List.mem_of_getElem? (i := 181) rfl) rfl), by decide, by decide⟩, fun _ => (bg_2 (List.mem_of_getElem? (i := 182) rfl) rfl), (fun h => absurd h (by decide)), by decide⟩
theorem tx_k65 : tx_ok 65 := ⟨(bg_2 (List.mem_of_getElem? (i := 187) rfl) rfl), (bg_1 (List.mem_of_getElem? (i := 1) rfl) rfl), ⟨by decide +kernel, by decide +kernel, by decide +kernel⟩, by decide +kernel, rfl, (fun h => absurd h (by decide)), fun _ => ⟨(bg_2 (List.mem_of_getElem? (i := 185) rfl) rfl), by decide, by decide⟩, fun _ => (bg_2 (List.mem_of_getElem? (i := 186) rfl) rfl), (fun h => absurd h (by decide)), by decide⟩
theorem tx_k66 : tx_ok 66 := ⟨(bg_2 (List.mem_of_getElem? (i := 205) rfl) rfl), (bg_1 (List.mem_of_getElem? (i := 1) rfl) rfl), ⟨by decide +kernel, by decide +kernel, by decide +kernel⟩, by decide +kernel, rfl, (fun h => absurd h (by decide)), fun _ => ⟨(bg_2 (List.mem_of_getElem? (i := 203) rfl) rfl), by decide, by decide⟩, fun _ => (bg_2 (List.mem_of_getElem? (i := 204) rfl) rfl), (fun h => absurd h (by decide)), by decide⟩
theorem tx_k67 : tx_ok 67 := ⟨(bg_2 (List.mem_of_getElem? (i := 213) rfl) rfl), (bg_1 (List.mem_of_getElem? (i := 1) rfl) rfl), ⟨by decide +kernel, by decide +kernel, by decide +kernel⟩, by decide +kernel, rfl, (fun h => absurd h (by decide)), fun _ => ⟨(bg_2 (List.mem_of_getElem? (i := 211) rfl) rfl), by decide, by decide⟩, fun _ => (bg_2 (List.mem_of_getElem? (i := 212) rfl) rfl), (fun h => absurd h (by decide)), by decide⟩
theorem tx_k68 : tx_ok 68 := ⟨(bg_2 (List.mem_of_getElem? (i := 221) rfl) rfl), (bg_1 (List.mem_of_getElem? (i := 1) rfl) rfl), ⟨by decide +kernel, by decide +kernel, by decide +kernel⟩, by decide +kernel, rfl, (fun h => absurd h (by decide)), fun _ => ⟨(bg_2 (List.mem_of_getElem? (i := 219) rfl) rfl), by decide, by decide⟩, fun _ => (bg_2 (List.mem_of_getElem? (i := 220) rfl) rfl), (fun h => absurd h (by decide)), by decide⟩
theorem tx_k69 : tx_ok 69 := ⟨(bg_2 (List.mem_of_getElem? (i := 229) rfl) rfl), (bg_1 (List.mem_of_getElem? (i := 1) rfl) rfl), ⟨by decide +kernel, by decide +kernel, by decide +kernel⟩, by decide +kernel, rfl, (fun h => absurd h (by decide)), fun _ => ⟨(bg_2 (List.mem_of_getElem? (i := 227) rfl) rfl), by decide, by decide⟩, fun _ => (bg_2 (List.mem_of_getElem? (i := 228) rfl) rfl), (fun h => absurd h (by decide)), by decide⟩
theorem tx_k70 : tx_ok 70 := ⟨(bg_3 (List.mem_of_getElem? (i := 12) rfl) rfl), (bg_1 (List.mem_of_getElem? (i := 1) rfl) rfl), ⟨by decide +kernel, by decide +kernel, by decide +kernel⟩, by decide +kernel, rfl, (fun h => absurd h (by decide)), fun _ => ⟨(bg_3 (List.mem_of_getElem? (i := 10) rfl) rfl), by decide, by decide⟩, fun _ => (bg_3 (List.mem_of_getElem? (i := 11) rfl) rfl), (fun h => absurd h (by decide)), by decide⟩
theorem tx_k71 : tx_ok 71 := ⟨(bg_3 (List.mem_of_getElem? (i := 25) rfl) rfl), (bg_1 (List.mem_of_getElem? (i := 1) rfl) rfl), ⟨by decide +kernel, by decide +kernel, by decide +kernel⟩, by decide +kernel, rfl, (fun h => absurd h (by decide)), fun _ => ⟨(bg_3 (List.mem_of_getElem? (i := 23) rfl) rfl), by decide, by decide⟩, fun _ => (bg_3 (List.mem_of_getElem? (i := 24) rfl) rfl), (fun h => absurd h (by decide)), by decide⟩
theorem tx_k72 : tx_ok 72 := ⟨(bg_3 (List.mem_of_getElem? (i := 29) rfl) rfl), (bg_1 (List.mem_of_getElem? (i := 1) rfl) rfl), ⟨by decide +kernel, by decide +kernel, by decide +kernel⟩, by decide +kernel, rfl, (fun h => absurd h (by decide)), fun _ => ⟨(bg_3 (List.mem_of_getElem? (i := 27) rfl) rfl), by decide, by decide⟩, fun _ => (bg_3 (List.mem_of_getElem? (i := 28) rfl) rfl), (fun h => absurd h (by decide)), by decide⟩
theorem tx_k73 : tx_ok 73 := ⟨(bg_3 (List.mem_of_getElem? (i := 55) rfl) rfl), (bg_1 (List.mem_of_getElem? (i := 1) rfl) rfl), ⟨by decide +kernel, by decide +kernel, by decide +kernel⟩, by decide +kernel, rfl, (fun h => absurd h (by decide)), fun _ => ⟨(bg_3 (List.mem_of_getElem? (i := 53) rfl) rfl), by decide, by decide⟩, fun _ => (bg_3 (List.mem_of_getElem? (i := 54) rfl) rfl), (fun h => absurd h (by decide)), by decide⟩
theorem tx_k74 : tx_ok 74 := ⟨(bg_3 (List.mem_of_getElem? (i := 69) rfl) rfl), (bg_1 (List.mem_of_getElem? (i := 1) rfl) rfl), ⟨by decide +kernel, by decide +kernel, by decide +kernel⟩, by decide +kernel, rfl, (fun h => absurd h (by decide)), fun _ => ⟨(bg_3 (List.mem_of_getElem? (i := 67) rfl) rfl), by decide, by decide⟩, fun _ => (bg_3 (List.mem_of_getElem? (i := 68) rfl) rfl), (fun h => absurd h (by decide)), by decide⟩
theorem tx_k75 : tx_ok 75 := ⟨(bg_3 (List.mem_of_getElem? (i := 82) rfl) rfl), (bg_1 (List.mem_of_getElem? (i := 1) rfl) rfl), ⟨by decide +kernel, by decide +kernel, by decide +kernel⟩, by decide +kernel, rfl, (fun h => absurd h (by decide)), fun _ => ⟨(bg_3 (List.mem_of_getElem? (i := 80) rfl) rfl), by decide, by decide⟩, fun _ => (bg_3 (List.mem_of_getElem? (i := 81) rfl) rfl), (fun h => absurd h (by decide)), by decide⟩
theorem tx_k76 : tx_ok 76 := ⟨(bg_3 (List.mem_of_getElem? (i := 95) rfl) rfl), (bg_1 (List.mem_of_getElem? (i := 1) rfl) rfl), ⟨by decide +kernel, by decide +kernel, by decide +kernel⟩, by decide +kernel, rfl, (fun h => absurd h (by decide)), fun _ => ⟨(bg_3 (List.mem_of_getElem? (i := 93) rfl) rfl), by decide, by decide⟩, fun _ => (bg_3 (List.mem_of_getElem? (i := 94) rfl) rfl), (fun h => absurd h (by decide)), by decide⟩
theorem tx_k77 : tx_ok 77 := ⟨(bg_3 (List.mem_of_getElem? (i := 108) rfl) rfl), (bg_1 (List.mem_of_getElem? (i := 1) rfl) rfl), ⟨by decide +kernel, by decide +kernel, by decide +kernel⟩, by decide +kernel, rfl, (fun h => absurd h (by decide)), fun _ => ⟨(bg_3 (List.mem_of_getElem? (i := 106) rfl) rfl), by decide, by decide⟩, fun _ => (bg_3 (List.mem_of_getElem? (i := 107) rfl) rfl), (fun h => absurd h (by decide)), by decide⟩
theorem tx_k78 : tx_ok 78 := ⟨(bg_3 (List.mem_of_getElem? (i := 142) rfl) rfl), (bg_1 (List.mem_of_getElem? (i := 1) rfl) rfl), ⟨by decide +kernel, by decide +kernel, by decide +kernel⟩, by decide +kernel, rfl, (fun h => absurd h (by decide)), fun _ => ⟨(bg_3 (List.mem_of_getElem? (i := 140) rfl) rfl), by decide, by decide⟩, fun _ => (bg_3 (List.mem_of_getElem? (i := 141) rfl) rfl), (fun h => absurd h (by decide)), by decide⟩
theorem tx_k79 : tx_ok 79 := ⟨(bg_3 (List.mem_of_getElem? (i := 147) rfl) rfl), (bg_1 (List.mem_of_getElem? (i := 1) rfl) rfl), ⟨by decide +kernel, by decide +kernel, by decide +kernel⟩, by decide +kernel, rfl, (fun h => absurd h (by decide)), fun _ => ⟨(bg_3 (List.mem_of_getElem? (i := 145) rfl) rfl), by decide, by decide⟩, fun _ => (bg_3 (List.mem_of_getElem? (i := 146) rfl) rfl), (fun h => absurd h (by decide)), by decide⟩
theorem tx_k80 : tx_ok 80 := ⟨(bg_3 (List.mem_of_getElem? (i := 151) rfl) rfl), (bg_1 (List.mem_of_getElem? (i := 1) rfl) rfl), ⟨by decide +kernel, by decide +kernel, by decide +kernel⟩, by decide +kernel, rfl, (fun h => absurd h (by decide)), fun _ => ⟨(bg_3 (List.mem_of_getElem? (i := 149) rfl) rfl), by decide, by decide⟩, fun _ => (bg_3 (List.mem_of_getElem? (i := 150) rfl) rfl), (fun h => absurd h (by decide)), by decide⟩
theorem tx_k81 : tx_ok 81 := ⟨(bg_3 (List.mem_of_getElem? (i := 155) rfl) rfl), (bg_1 (List.mem_of_getElem? (i := 1) rfl) rfl), ⟨by decide +kernel, by decide +kernel, by decide +kernel⟩, by decide +kernel, rfl, (fun h => absurd h (by decide)), fun _ => ⟨(bg_3 (List.mem_of_getElem? (i := 153) rfl) rfl), by decide, by decide⟩, fun _ => (bg_3 (List.mem_of_getElem? (i := 154) rfl) rfl), (fun h => absurd h (by decide)), by decide⟩
theorem tx_k82 : tx_ok 82 := ⟨(bg_1 (List.mem_of_getElem? (i := 230) rfl) rfl), (bg_1 (List.mem_of_getElem? (i := 1) rfl) rfl), ⟨by decide +kernel, by decide +kernel, by decide +kernel⟩, by decide +kernel, rfl, fun _ => (bg_1 (List.mem_of_getElem? (i := 229) rfl) rfl), (fun h => absurd h (by decide)), (fun h => absurd h (by decide)), (fun h => absurd h (by decide)), by decide⟩
theorem tx_k83 : tx_ok 83 := ⟨(bg_2 (List.mem_of_getElem? (i := 159) rfl) rfl), (bg_1 (List.mem_of_getElem? (i := 1) rfl) rfl), ⟨by decide +kernel, by decide +kernel, by decide +kernel⟩, by decide +kernel, rfl, fun _ => (bg_2 (List.mem_of_getElem? (i := 158) rfl) rfl), (fun h => absurd h (by decide)), (fun h => absurd h (by decide)), (fun h => absurd h (by decide)), by decide⟩
theorem tx_k84 : tx_ok 84 := ⟨(bg_2 (List.mem_of_getElem? (i := 73) rfl) rfl), (bg_1 (List.mem_of_getElem? (i := 1) rfl) rfl), ⟨by decide +kernel, by decide +kernel, by decide +kernel⟩, by decide +kernel, rfl, (fun h => absurd h (by decide)), fun _ => ⟨(bg_2 (List.mem_of_getElem? (i := 72) rfl) rfl), by decide, by decide⟩, fun _ => (bg_s (q := (yX6_beginAnew, 10)) (List.mem_of_getElem? (i := 7) rfl)), (fun h => absurd h (by decide)), by decide⟩
theorem tx_k85 : tx_ok 85 := ⟨(bg_2 (List.mem_of_getElem? (i := 85) rfl) rfl), (bg_1 (List.mem_of_getElem? (i := 1) rfl) rfl), ⟨by decide +kernel, by decide +kernel, by decide +kernel⟩, by decide +kernel, rfl, (fun h => absurd h (by decide)), fun _ => ⟨(bg_2 (List.mem_of_getElem? (i := 84) rfl) rfl), by decide, by decide⟩, fun _ => (bg_s (q := (yX6_isDay, 10)) (List.mem_of_getElem? (i := 8) rfl)), (fun h => absurd h (by decide)), by decide⟩
theorem tx_k86 : tx_ok 86 := ⟨(bg_2 (List.mem_of_getElem? (i := 101) rfl) rfl), (bg_1 (List.mem_of_getElem? (i := 1) rfl) rfl), ⟨by decide +kernel, by decide +kernel, by decide +kernel⟩, by decide +kernel, rfl, (fun h => absurd h (by decide)), fun _ => ⟨(bg_2 (List.mem_of_getElem? (i := 100) rfl) rfl), by decide, by decide⟩, fun _ => (bg_s (q := (yX6_isWork, 10)) (List.mem_of_getElem? (i := 9) rfl)), (fun h => absurd h (by decide)), by decide⟩
theorem tx_k87 : tx_ok 87 := ⟨(bg_2 (List.mem_of_getElem? (i := 137) rfl) rfl), (bg_1 (List.mem_of_getElem? (i := 1) rfl) rfl), ⟨by decide +kernel, by decide +kernel, by decide +kernel⟩, by decide +kernel, rfl, (fun h => absurd h (by decide)), fun _ => ⟨(bg_2 (List.mem_of_getElem? (i := 136) rfl) rfl), by decide, by decide⟩, fun _ => (bg_s (q := (yX6_isOver, 10)) (List.mem_of_getElem? (i := 12) rfl)), (fun h => absurd h (by decide)), by decide⟩
theorem tx_k88 : tx_ok 88 := ⟨(bg_2 (List.mem_of_getElem? (i := 191) rfl) rfl), (bg_1 (List.mem_of_getElem? (i := 1) rfl) rfl), ⟨by decide +kernel, by decide +kernel, by decide +kernel⟩, by decide +kernel, rfl, (fun h => absurd h (by decide)), fun _ => ⟨(bg_2 (List.mem_of_getElem? (i := 190) rfl) rfl), by decide, by decide⟩, fun _ => (bg_s (q := (yX6_canBeFed, 10)) (List.mem_of_getElem? (i := 13) rfl)), (fun h => absurd h (by decide)), by decide⟩
theorem tx_k89 : tx_ok 89 := ⟨(bg_2 (List.mem_of_getElem? (i := 133) rfl) rfl), (bg_1 (List.mem_of_getElem? (i := 1) rfl) rfl), ⟨by decide +kernel, by decide +kernel, by decide +kernel⟩, by decide +kernel, rfl, (fun h => absurd h (by decide)), fun _ => ⟨(bg_2 (List.mem_of_getElem? (i := 132) rfl) rfl), by decide, by decide⟩, fun _ => (bg_s (q := (yX6_strokes, 10)) (List.mem_of_getElem? (i := 11) rfl)), (fun h => absurd h (by decide)), by decide⟩
theorem tx_k90 : tx_ok 90 := ⟨(bg_2 (List.mem_of_getElem? (i := 129) rfl) rfl), (bg_1 (List.mem_of_getElem? (i := 1) rfl) rfl), ⟨by decide +kernel, by decide +kernel, by decide +kernel⟩, by decide +kernel, rfl, (fun h => absurd h (by decide)), fun _ => ⟨(bg_2 (List.mem_of_getElem? (i := 128) rfl) rfl), by decide, by decide⟩, fun _ => (bg_s (q := (yX6_need, 10)) (List.mem_of_getElem? (i := 10) rfl)), (fun h => absurd h (by decide)), by decide⟩
theorem tx_k91 : tx_ok 91 := ⟨(bg_2 (List.mem_of_getElem? (i := 225) rfl) rfl), (bg_1 (List.mem_of_getElem? (i := 1) rfl) rfl), ⟨by decide +kernel, by decide +kernel, by decide +kernel⟩, by decide +kernel, rfl, (fun h => absurd h (by decide)), fun _ => ⟨(bg_2 (List.mem_of_getElem? (i := 224) rfl) rfl), by decide, by decide⟩, fun _ => (bg_s (q := (yX6_comingBy, 10)) (List.mem_of_getElem? (i := 14) rfl)), (fun h => absurd h (by decide)), by decide⟩
theorem tx_k92 : tx_ok 92 := ⟨(bg_2 (List.mem_of_getElem? (i := 233) rfl) rfl), (bg_1 (List.mem_of_getElem? (i := 1) rfl) rfl), ⟨by decide +kernel, by decide +kernel, by decide +kernel⟩, by decide +kernel, rfl, (fun h => absurd h (by decide)), fun _ => ⟨(bg_2 (List.mem_of_getElem? (i := 232) rfl) rfl), by decide, by decide⟩, fun _ => (bg_s (q := (yX6_bestMenu, 10)) (List.mem_of_getElem? (i := 15) rfl)), (fun h => absurd h (by decide)), by decide⟩
theorem tx_k93 : tx_ok 93 := ⟨(bg_3 (List.mem_of_getElem? (i := 2) rfl) rfl), (bg_1 (List.mem_of_getElem? (i := 1) rfl) rfl), ⟨by decide +kernel, by decide +kernel, by decide +kernel⟩, by decide +kernel, rfl, (fun h => absurd h (by decide)), fun _ => ⟨(bg_3 (List.mem_of_getElem? (i := 1) rfl) rfl), by decide, by decide⟩, fun _ => (bg_s (q := (yX6_canAllBeFed, 10)) (List.mem_of_getElem? (i := 16) rfl)), (fun h => absurd h (by decide)), by decide⟩
theorem tx_k94 : tx_ok 94 := ⟨(bg_3 (List.mem_of_getElem? (i := 98) rfl) rfl), (bg_1 (List.mem_of_getElem? (i := 1) rfl) rfl), ⟨by decide +kernel, by decide +kernel, by decide +kernel⟩, by decide +kernel, rfl, fun _ => (bg_3 (List.mem_of_getElem? (i := 97) rfl) rfl), (fun h => absurd h (by decide)), (fun h => absurd h (by decide)), (fun h => absurd h (by decide)), by decide⟩
theorem tx_k95 : tx_ok 95 := ⟨(bg_3 (List.mem_of_getElem? (i := 101) rfl) rfl), (bg_1 (List.mem_of_getElem? (i := 1) rfl) rfl), ⟨by decide +kernel, by decide +kernel, by decide +kernel⟩, by decide +kernel, rfl, fun _ => (bg_3 (List.mem_of_getElem? (i := 100) rfl) rfl), (fun h => absurd h (by decide)), (fun h => absurd h (by decide)), (fun h => absurd h (by decide)), by decide⟩
theorem tx_k96 : tx_ok 96 := ⟨(bg_3 (List.mem_of_getElem? (i := 104) rfl) rfl), (bg_1 (List.mem_of_getElem? (i := 1) rfl) rfl), ⟨by decide +kernel, by decide +kernel, by decide +kernel⟩, by decide +kernel, rfl, fun _ => (bg_3 (List.mem_of_getElem? (i := 103) rfl) rfl), (fun h => absurd h (by decide)), (fun h => absurd h (by decide)), (fun h => absurd h (by decide)), by decide⟩
theorem tx_k97 : tx_ok 97 := ⟨(bg_3 (List.mem_of_getElem? (i := 113) rfl) rfl), (bg_1 (List.mem_of_getElem? (i := 1) rfl) rfl), ⟨by decide +kernel, by decide +kernel, by decide +kernel⟩, by decide +kernel, rfl, (fun h => absurd h (by decide)), fun _ => ⟨(bg_3 (List.mem_of_getElem? (i := 112) rfl) rfl), by decide, by decide⟩, fun _ => (bg_s (q := (yX6_rateDay, 10)) (List.mem_of_getElem? (i := 20) rfl)), (fun h => absurd h (by decide)), by decide⟩
theorem tx_k98 : tx_ok 98 := ⟨(bg_3 (List.mem_of_getElem? (i := 117) rfl) rfl), (bg_1 (List.mem_of_getElem? (i := 1) rfl) rfl), ⟨by decide +kernel, by decide +kernel, by decide +kernel⟩, by decide +kernel, rfl, (fun h => absurd h (by decide)), fun _ => ⟨(bg_3 (List.mem_of_getElem? (i := 116) rfl) rfl), by decide, by decide⟩, fun _ => (bg_s (q := (yX6_rateWet, 10)) (List.mem_of_getElem? (i := 21) rfl)), (fun h => absurd h (by decide)), by decide⟩
theorem tx_k99 : tx_ok 99 := ⟨(bg_3 (List.mem_of_getElem? (i := 122) rfl) rfl), (bg_1 (List.mem_of_getElem? (i := 1) rfl) rfl), ⟨by decide +kernel, by decide +kernel, by decide +kernel⟩, by decide +kernel, rfl, (fun h => absurd h (by decide)), fun _ => ⟨(bg_3 (List.mem_of_getElem? (i := 121) rfl) rfl), by decide, by decide⟩, fun _ => (bg_s (q := (yX6_rateBlue, 10)) (List.mem_of_getElem? (i := 22) rfl)), (fun h => absurd h (by decide)), by decide⟩
theorem tx_k100 : tx_ok 100 := ⟨(bg_3 (List.mem_of_getElem? (i := 127) rfl) rfl), (bg_1 (List.mem_of_getElem? (i := 1) rfl) rfl), ⟨by decide +kernel, by decide +kernel, by decide +kernel⟩, by decide +kernel, rfl, (fun h => absurd h (by decide)), fun _ => ⟨(bg_3 (List.mem_of_getElem? (i := 126) rfl) rfl), by decide, by decide⟩, fun _ => (bg_s (q := (yX6_rateSunday, 10)) (List.mem_of_getElem? (i := 23) rfl)), (fun h => absurd h (by decide)), by decide⟩
theorem tx_k101 : tx_ok 101 := ⟨(bg_3 (List.mem_of_getElem? (i := 132) rfl) rfl), (bg_1 (List.mem_of_getElem? (i := 1) rfl) rfl), ⟨by decide +kernel, by decide +kernel, by decide +kernel⟩, by decide +kernel, rfl, (fun h => absurd h (by decide)), fun _ => ⟨(bg_3 (List.mem_of_getElem? (i := 131) rfl) rfl), by decide, by decide⟩, fun _ => (bg_s (q := (yX6_rateApril, 10)) (List.mem_of_getElem? (i := 24) rfl)), (fun h => absurd h (by decide)), by decide⟩
theorem tx_k102 : tx_ok 102 := ⟨(bg_3 (List.mem_of_getElem? (i := 137) rfl) rfl), (bg_1 (List.mem_of_getElem? (i := 1) rfl) rfl), ⟨by decide +kernel, by decide +kernel, by decide +kernel⟩, by decide +kernel, rfl, (fun h => absurd h (by decide)), fun _ => ⟨(bg_3 (List.mem_of_getElem? (i := 136) rfl) rfl), by decide, by decide⟩, fun _ => (bg_s (q := (yX6_rateMarket, 10)) (List.mem_of_getElem? (i := 25) rfl)), (fun h => absurd h (by decide)), by decide⟩
theorem tx_k103 : tx_ok 103 := ⟨(bg_3 (List.mem_of_getElem? (i := 160) rfl) rfl), (bg_1 (List.mem_of_getElem? (i := 8) rfl) rfl), ⟨by decide +kernel, by decide +kernel, by decide +kernel⟩, by decide +kernel, rfl, (fun h => absurd h (by decide)), fun _ => ⟨(bg_3 (List.mem_of_getElem? (i := 159) rfl) rfl), by decide, by decide⟩, (fun h => absurd h (by decide)), fun _ => ⟨rfl, rfl⟩, by decide⟩
theorem tx_k104 : tx_ok 104 := ⟨(bg_4 (List.mem_of_getElem? (i := 18) rfl) rfl), (bg_1 (List.mem_of_getElem? (i := 8) rfl) rfl), ⟨by decide +kernel, by decide +kernel, by decide +kernel⟩, by decide +kernel, rfl, fun _ => (bg_4 (List.mem_of_getElem? (i := 17) rfl) rfl), (fun h => absurd h (by decide)), (fun h => absurd h (by decide)), (fun h => absurd h (by decide)), by decide⟩
theorem tx_k105 : tx_ok 105 := ⟨(bg_4 (List.mem_of_getElem? (i := 174) rfl) rfl), (bg_1 (List.mem_of_getElem? (i := 8) rfl) rfl), ⟨by decide +kernel, by decide +kernel, by decide +kernel⟩, by decide +kernel, rfl, fun _ => (bg_4 (List.mem_of_getElem? (i := 173) rfl) rfl), (fun h => absurd h (by decide)), (fun h => absurd h (by decide)), (fun h => absurd h (by decide)), by decide⟩
theorem tx_k106 : tx_ok 106 := ⟨(bg_4 (List.mem_of_getElem? (i := 15) rfl) rfl), (bg_1 (List.mem_of_getElem? (i := 8) rfl) rfl), ⟨by decide +kernel, by decide +kernel, by decide +kernel⟩, by decide +kernel, rfl, (fun h => absurd h (by decide)), fun _ => ⟨(bg_4 (List.mem_of_getElem? (i := 13) rfl) rfl), by decide, by decide⟩, fun _ => (bg_4 (List.mem_of_getElem? (i := 14) rfl) rfl), (fun h => absurd h (by decide)), by decide⟩
theorem tx_k107 : tx_ok 107 := ⟨(bg_4 (List.mem_of_getElem? (i := 22) rfl) rfl), (bg_1 (List.mem_of_getElem? (i := 8) rfl) rfl), ⟨by decide +kernel, by decide +kernel, by decide +kernel⟩, by decide +kernel, rfl, (fun h => absurd h (by decide)), fun _ => ⟨(bg_4 (List.mem_of_getElem? (i := 20) rfl) rfl), by decide, by decide⟩, fun _ => (bg_4 (List.mem_of_getElem? (i := 21) rfl) rfl), (fun h => absurd h (by decide)), by decide⟩
theorem tx_k108 : tx_ok 108 := ⟨(bg_4 (List.mem_of_getElem? (i := 34) rfl) rfl), (bg_1 (List.mem_of_getElem? (i := 8) rfl) rfl), ⟨by decide +kernel, by decide +kernel, by decide +kernel⟩, by decide +kernel, rfl, (fun h => absurd h (by decide)), fun _ => ⟨(bg_4 (List.mem_of_getElem? (i := 33) rfl) rfl), by decide, by decide⟩, fun _ => (bg_s (q := (yX7_letterAt, 27)) (List.mem_of_getElem? (i := 29) rfl)), (fun h => absurd h (by decide)), by decide⟩
theorem tx_k109 : tx_ok 109 := ⟨(bg_4 (List.mem_of_getElem? (i := 30) rfl) rfl), (bg_1 (List.mem_of_getElem? (i := 8) rfl) rfl), ⟨by decide +kernel, by decide +kernel, by decide +kernel⟩, by decide +kernel, rfl, (fun h => absurd h (by decide)), fun _ => ⟨(bg_4 (List.mem_of_getElem? (i := 29) rfl) rfl), by decide, by decide⟩, fun _ => (bg_s (q := (yX7_advances, 27)) (List.mem_of_getElem? (i := 28) rfl)), (fun h => absurd h (by decide)), by decide⟩
theorem tx_k110 : tx_ok 110 := ⟨(bg_4 (List.mem_of_getElem? (i := 38) rfl) rfl), (bg_1 (List.mem_of_getElem? (i := 8) rfl) rfl), ⟨by decide +kernel, by decide +kernel, by decide +kernel⟩, by decide +kernel, rfl, (fun h => absurd h (by decide)), fun _ => ⟨(bg_4 (List.mem_of_getElem? (i := 37) rfl) rfl), by decide, by decide⟩, fun _ => (bg_s (q := (yX7_isWell, 27)) (List.mem_of_getElem? (i := 30) rfl)), (fun h => absurd h (by decide)), by decide⟩
theorem tx_k111 : tx_ok 111 := ⟨(bg_4 (List.mem_of_getElem? (i := 46) rfl) rfl), (bg_1 (List.mem_of_getElem? (i := 8) rfl) rfl), ⟨by decide +kernel, by decide +kernel, by decide +kernel⟩, by decide +kernel, rfl, (fun h => absurd h (by decide)), fun _ => ⟨(bg_4 (List.mem_of_getElem? (i := 45) rfl) rfl), by decide, by decide⟩, fun _ => (bg_s (q := (yX7_takes, 27)) (List.mem_of_getElem? (i := 32) rfl)), (fun h => absurd h (by decide)), by decide⟩
theorem tx_k112 : tx_ok 112 := ⟨(bg_4 (List.mem_of_getElem? (i := 54) rfl) rfl), (bg_1 (List.mem_of_getElem? (i := 8) rfl) rfl), ⟨by decide +kernel, by decide +kernel, by decide +kernel⟩, by decide +kernel, rfl, (fun h => absurd h (by decide)), fun _ => ⟨(bg_4 (List.mem_of_getElem? (i := 53) rfl) rfl), by decide, by decide⟩, fun _ => (bg_s (q := (yX7_number, 27)) (List.mem_of_getElem? (i := 34) rfl)), (fun h => absurd h (by decide)), by decide⟩
theorem tx_k113 : tx_ok 113 := ⟨(bg_3 (List.mem_of_getElem? (i := 165) rfl) rfl), (bg_1 (List.mem_of_getElem? (i := 8) rfl) rfl), ⟨by decide +kernel, by decide +kernel, by decide +kernel⟩, by decide +kernel, rfl, (fun h => absurd h (by decide)), fun _ => ⟨(bg_3 (List.mem_of_getElem? (i := 164) rfl) rfl), by decide, by decide⟩, fun _ => (bg_s (q := (yX7_begins, 27)) (List.mem_of_getElem? (i := 26) rfl)), (fun h => absurd h (by decide)), by decide⟩
theorem tx_k114 : tx_ok 114 := ⟨(bg_4 (List.mem_of_getElem? (i := 42) rfl) rfl), (bg_1 (List.mem_of_getElem? (i := 8) rfl) rfl), ⟨by decide +kernel, by decide +kernel, by decide +kernel⟩, by decide +kernel, rfl, (fun h => absurd h (by decide)), fun _ => ⟨(bg_4 (List.mem_of_getElem? (i := 41) rfl) rfl), by decide, by decide⟩, fun _ => (bg_s (q := (yX7_mayBegin, 27)) (List.mem_of_getElem? (i := 31) rfl)), (fun h => absurd h (by decide)), by decide⟩
theorem tx_k115 : tx_ok 115 := ⟨(bg_4 (List.mem_of_getElem? (i := 50) rfl) rfl), (bg_1 (List.mem_of_getElem? (i := 8) rfl) rfl), ⟨by decide +kernel, by decide +kernel, by decide +kernel⟩, by decide +kernel, rfl, (fun h => absurd h (by decide)), fun _ => ⟨(bg_4 (List.mem_of_getElem? (i := 49) rfl) rfl), by decide, by decide⟩, fun _ => (bg_s (q := (yX7_readsItem, 27)) (List.mem_of_getElem? (i := 33) rfl)), (fun h => absurd h (by decide)), by decide⟩
theorem tx_k116 : tx_ok 116 := ⟨(bg_4 (List.mem_of_getElem? (i := 26) rfl) rfl), (bg_1 (List.mem_of_getElem? (i := 8) rfl) rfl), ⟨by decide +kernel, by decide +kernel, by decide +kernel⟩, by decide +kernel, rfl, (fun h => absurd h (by decide)), fun _ => ⟨(bg_4 (List.mem_of_getElem? (i := 24) rfl) rfl), by decide, by decide⟩, fun _ => (bg_4 (List.mem_of_getElem? (i := 25) rfl) rfl), (fun h => absurd h (by decide)), by decide⟩
theorem tx_k117 : tx_ok 117 := ⟨(bg_3 (List.mem_of_getElem? (i := 169) rfl) rfl), (bg_1 (List.mem_of_getElem? (i := 8) rfl) rfl), ⟨by decide +kernel, by decide +kernel, by decide +kernel⟩, by decide +kernel, rfl, (fun h => absurd h (by decide)), fun _ => ⟨(bg_3 (List.mem_of_getElem? (i := 168) rfl) rfl), by decide, by decide⟩, fun _ => (bg_s (q := (yX7_settles, 27)) (List.mem_of_getElem? (i := 27) rfl)), (fun h => absurd h (by decide)), by decide⟩
theorem tx_k118 : tx_ok 118 := ⟨(bg_4 (List.mem_of_getElem? (i := 62) rfl) rfl), (bg_1 (List.mem_of_getElem? (i := 8) rfl) rfl), ⟨by decide +kernel, by decide +kernel, by decide +kernel⟩, by decide +kernel, rfl, (fun h => absurd h (by decide)), fun _ => ⟨(bg_4 (List.mem_of_getElem? (i := 61) rfl) rfl), by decide, by decide⟩, fun _ => (bg_s (q := (yX7_isDay, 27)) (List.mem_of_getElem? (i := 35) rfl)), (fun h => absurd h (by decide)), by decide⟩
theorem tx_k119 : tx_ok 119 := ⟨(bg_4 (List.mem_of_getElem? (i := 70) rfl) rfl), (bg_1 (List.mem_of_getElem? (i := 8) rfl) rfl), ⟨by decide +kernel, by decide +kernel, by decide +kernel⟩, by decide +kernel, rfl, (fun h => absurd h (by decide)), fun _ => ⟨(bg_4 (List.mem_of_getElem? (i := 69) rfl) rfl), by decide, by decide⟩, fun _ => (bg_s (q := (yX7_isWork, 27)) (List.mem_of_getElem? (i := 36) rfl)), (fun h => absurd h (by decide)), by decide⟩
theorem tx_k120 : tx_ok 120 := ⟨(bg_4 (List.mem_of_getElem? (i := 86) rfl) rfl), (bg_1 (List.mem_of_getElem? (i := 8) rfl) rfl), ⟨by decide +kernel, by decide +kernel, by decide +kernel⟩, by decide +kernel, rfl, (fun h => absurd h (by decide)), fun _ => ⟨(bg_4 (List.mem_of_getElem? (i := 85) rfl) rfl), by decide, by decide⟩, fun _ => (bg_s (q := (yX7_isOver, 27)) (List.mem_of_getElem? (i := 39) rfl)), (fun h => absurd h (by decide)), by decide⟩
theorem tx_k121 : tx_ok 121 := ⟨(bg_4 (List.mem_of_getElem? (i := 126) rfl) rfl), (bg_1 (List.mem_of_getElem? (i := 8) rfl) rfl), ⟨by decide +kernel, by decide +kernel, by decide +kernel⟩, by decide +kernel, rfl, (fun h => absurd h (by decide)), fun _ => ⟨(bg_4 (List.mem_of_getElem? (i := 125) rfl) rfl), by decide, by decide⟩, fun _ => (bg_s (q := (yX7_isFed, 27)) (List.mem_of_getElem? (i := 43) rfl)), (fun h => absurd h (by decide)), by decide⟩
theorem tx_k122 : tx_ok 122 := ⟨(bg_4 (List.mem_of_getElem? (i := 58) rfl) rfl), (bg_1 (List.mem_of_getElem? (i := 8) rfl) rfl), ⟨by decide +kernel, by decide +kernel, by decide +kernel⟩, by decide +kernel, rfl, (fun h => absurd h (by decide)), fun _ => ⟨(bg_4 (List.mem_of_getElem? (i := 56) rfl) rfl), by decide, by decide⟩, fun _ => (bg_4 (List.mem_of_getElem? (i := 57) rfl) rfl), (fun h => absurd h (by decide)), by decide⟩
theorem tx_k123 : tx_ok 123 := ⟨(bg_4 (List.mem_of_getElem? (i := 66) rfl) rfl), (bg_1 (List.mem_of_getElem? (i := 8) rfl) rfl), ⟨by decide +kernel, by decide +kernel, by decide +kernel⟩, by decide +kernel, rfl, (fun h => absurd h (by decide)), fun _ => ⟨(bg_4 (List.mem_of_getElem? (i := 64) rfl) rfl), by decide, by decide⟩, fun _ => (bg_4 (List.mem_of_getElem? (i := 65) rfl) rfl), (fun h => absurd h (by decide)), by decide⟩
theorem tx_k124 : tx_ok 124 := ⟨(bg_4 (List.mem_of_getElem? (i := 82) rfl) rfl), (bg_1 (List.mem_of_getElem? (i := 8) rfl) rfl), ⟨by decide +kernel, by decide +kernel, by decide +kernel⟩, by decide +kernel, rfl, (fun h => absurd h (by decide)), fun _ => ⟨(bg_4 (List.mem_of_getElem? (i := 81) rfl) rfl), by decide, by decide⟩, fun _ => (bg_s (q := (yX7_strokes, 27)) (List.mem_of_getElem? (i := 38) rfl)), (fun h => absurd h (by decide)), by decide⟩
theorem tx_k125 : tx_ok 125 := ⟨(bg_4 (List.mem_of_getElem? (i := 90) rfl) rfl), (bg_1 (List.mem_of_getElem? (i := 8) rfl) rfl), ⟨by decide +kernel, by decide +kernel, by decide +kernel⟩, by decide +kernel, rfl, (fun h => absurd h (by decide)), fun _ => ⟨(bg_4 (List.mem_of_getElem? (i := 89) rfl) rfl), by decide, by decide⟩, fun _ => (bg_s (q := (yX7_freshAll, 27)) (List.mem_of_getElem? (i := 40) rfl)), (fun h => absurd h (by decide)), by decide⟩
theorem tx_k126 : tx_ok 126 := ⟨(bg_4 (List.mem_of_getElem? (i := 78) rfl) rfl), (bg_1 (List.mem_of_getElem? (i := 8) rfl) rfl), ⟨by decide +kernel, by decide +kernel, by decide +kernel⟩, by decide +kernel, rfl, (fun h => absurd h (by decide)), fun _ => ⟨(bg_4 (List.mem_of_getElem? (i := 77) rfl) rfl), by decide, by decide⟩, fun _ => (bg_s (q := (yX7_need, 27)) (List.mem_of_getElem? (i := 37) rfl)), (fun h => absurd h (by decide)), by decide⟩
theorem tx_k127 : tx_ok 127 := ⟨(bg_4 (List.mem_of_getElem? (i := 74) rfl) rfl), (bg_1 (List.mem_of_getElem? (i := 8) rfl) rfl), ⟨by decide +kernel, by decide +kernel, by decide +kernel⟩, by decide +kernel, rfl, (fun h => absurd h (by decide)), fun _ => ⟨(bg_4 (List.mem_of_getElem? (i := 72) rfl) rfl), by decide, by decide⟩, fun _ => (bg_4 (List.mem_of_getElem? (i := 73) rfl) rfl), (fun h => absurd h (by decide)), by decide⟩
theorem tx_k128 : tx_ok 128 := ⟨(bg_4 (List.mem_of_getElem? (i := 94) rfl) rfl), (bg_1 (List.mem_of_getElem? (i := 8) rfl) rfl), ⟨by decide +kernel, by decide +kernel, by decide +kernel⟩, by decide +kernel, rfl, (fun h => absurd h (by decide)), fun _ => ⟨(bg_4 (List.mem_of_getElem? (i := 92) rfl) rfl), by decide, by decide⟩, fun _ => (bg_4 (List.mem_of_getElem? (i := 93) rfl) rfl), (fun h => absurd h (by decide)), by decide⟩
theorem tx_k129 : tx_ok 129 := ⟨(bg_4 (List.mem_of_getElem? (i := 102) rfl) rfl), (bg_1 (List.mem_of_getElem? (i := 8) rfl) rfl), ⟨by decide +kernel, by decide +kernel, by decide +kernel⟩, by decide +kernel, rfl, (fun h => absurd h (by decide)), fun _ => ⟨(bg_4 (List.mem_of_getElem? (i := 101) rfl) rfl), by decide, by decide⟩, fun _ => (bg_s (q := (yX7_notes, 27)) (List.mem_of_getElem? (i := 41) rfl)), (fun h => absurd h (by decide)), by decide⟩
theorem tx_k130 : tx_ok 130 := ⟨(bg_4 (List.mem_of_getElem? (i := 98) rfl) rfl), (bg_1 (List.mem_of_getElem? (i := 8) rfl) rfl), ⟨by decide +kernel, by decide +kernel, by decide +kernel⟩, by decide +kernel, rfl, (fun h => absurd h (by decide)), fun _ => ⟨(bg_4 (List.mem_of_getElem? (i := 96) rfl) rfl), by decide, by decide⟩, fun _ => (bg_4 (List.mem_of_getElem? (i := 97) rfl) rfl), (fun h => absurd h (by decide)), by decide⟩
theorem tx_k131 : tx_ok 131 := ⟨(bg_4 (List.mem_of_getElem? (i := 106) rfl) rfl), (bg_1 (List.mem_of_getElem? (i := 8) rfl) rfl), ⟨by decide +kernel, by decide +kernel, by decide +kernel⟩, by decide +kernel, rfl, (fun h => absurd h (by decide)), fun _ => ⟨(bg_4 (List.mem_of_getElem? (i := 104) rfl) rfl), by decide, by decide⟩, fun _ => (bg_4 (List.mem_of_getElem? (i := 105) rfl) rfl), (fun h => absurd h (by decide)), by decide⟩
theorem tx_k132 : tx_ok 132 := ⟨(bg_4 (List.mem_of_getElem? (i := 114) rfl) rfl), (bg_1 (List.mem_of_getElem? (i := 8) rfl) rfl), ⟨by decide +kernel, by decide +kernel, by decide +kernel⟩, by decide +kernel, rfl, (fun h => absurd h (by decide)), fun _ => ⟨(bg_4 (List.mem_of_getElem? (i := 113) rfl) rfl), by decide, by decide⟩, fun _ => (bg_s (q := (yX7_takesFresh, 27)) (List.mem_of_getElem? (i := 42) rfl)), (fun h => absurd h (by decide)), by decide⟩
theorem tx_k133 : tx_ok 133 := ⟨(bg_4 (List.mem_of_getElem? (i := 110) rfl) rfl), (bg_1 (List.mem_of_getElem? (i := 8) rfl) rfl), ⟨by decide +kernel, by decide +kernel, by decide +kernel⟩, by decide +kernel, rfl, (fun h => absurd h (by decide)), fun _ => ⟨(bg_4 (List.mem_of_getElem? (i := 108) rfl) rfl), by decide, by decide⟩, fun _ => (bg_4 (List.mem_of_getElem? (i := 109) rfl) rfl), (fun h => absurd h (by decide)), by decide⟩
theorem tx_k134 : tx_ok 134 := ⟨(bg_4 (List.mem_of_getElem? (i := 118) rfl) rfl), (bg_1 (List.mem_of_getElem? (i := 8) rfl) rfl), ⟨by decide +kernel, by decide +kernel, by decide +kernel⟩, by decide +kernel, rfl, (fun h => absurd h (by decide)), fun _ => ⟨(bg_4 (List.mem_of_getElem? (i := 116) rfl) rfl), by decide, by decide⟩, fun _ => (bg_4 (List.mem_of_getElem? (i := 117) rfl) rfl), (fun h => absurd h (by decide)), by decide⟩
theorem tx_k135 : tx_ok 135 := ⟨(bg_4 (List.mem_of_getElem? (i := 122) rfl) rfl), (bg_1 (List.mem_of_getElem? (i := 8) rfl) rfl), ⟨by decide +kernel, by decide +kernel, by decide +kernel⟩, by decide +kernel, rfl, (fun h => absurd h (by decide)), fun _ => ⟨(bg_4 (List.mem_of_getElem? (i := 120) rfl) rfl), by decide, by decide⟩, fun _ => (bg_4 (List.mem_of_getElem? (i := 121) rfl) rfl), (fun h => absurd h (by decide)), by decide⟩
theorem tx_k136 : tx_ok 136 := ⟨(bg_4 (List.mem_of_getElem? (i := 130) rfl) rfl), (bg_1 (List.mem_of_getElem? (i := 8) rfl) rfl), ⟨by decide +kernel, by decide +kernel, by decide +kernel⟩, by decide +kernel, rfl, (fun h => absurd h (by decide)), fun _ => ⟨(bg_4 (List.mem_of_getElem? (i := 128) rfl) rfl), by decide, by decide⟩, fun _ => (bg_4 (List.mem_of_getElem? (i := 129) rfl) rfl), (fun h => absurd h (by decide)), by decide⟩
theorem tx_k137 : tx_ok 137 := ⟨(bg_4 (List.mem_of_getElem? (i := 134) rfl) rfl), (bg_1 (List.mem_of_getElem? (i := 8) rfl) rfl), ⟨by decide +kernel, by decide +kernel, by decide +kernel⟩, by decide +kernel, rfl, (fun h => absurd h (by decide)), fun _ => ⟨(bg_4 (List.mem_of_getElem? (i := 132) rfl) rfl), by decide, by decide⟩, fun _ => (bg_4 (List.mem_of_getElem? (i := 133) rfl) rfl), (fun h => absurd h (by decide)), by decide⟩
theorem tx_k138 : tx_ok 138 := ⟨(bg_4 (List.mem_of_getElem? (i := 142) rfl) rfl), (bg_1 (List.mem_of_getElem? (i := 8) rfl) rfl), ⟨by decide +kernel, by decide +kernel, by decide +kernel⟩, by decide +kernel, rfl, (fun h => absurd h (by decide)), fun _ => ⟨(bg_4 (List.mem_of_getElem? (i := 141) rfl) rfl), by decide, by decide⟩, fun _ => (bg_s (q := (yX7_counts, 27)) (List.mem_of_getElem? (i := 44) rfl)), (fun h => absurd h (by decide)), by decide⟩
theorem tx_k139 : tx_ok 139 := ⟨(bg_4 (List.mem_of_getElem? (i := 138) rfl) rfl), (bg_1 (List.mem_of_getElem? (i := 8) rfl) rfl), ⟨by decide +kernel, by decide +kernel, by decide +kernel⟩, by decide +kernel, rfl, (fun h => absurd h (by decide)), fun _ => ⟨(bg_4 (List.mem_of_getElem? (i := 136) rfl) rfl), by decide, by decide⟩, fun _ => (bg_4 (List.mem_of_getElem? (i := 137) rfl) rfl), (fun h => absurd h (by decide)), by decide⟩
theorem tx_k140 : tx_ok 140 := ⟨(bg_4 (List.mem_of_getElem? (i := 150) rfl) rfl), (bg_1 (List.mem_of_getElem? (i := 8) rfl) rfl), ⟨by decide +kernel, by decide +kernel, by decide +kernel⟩, by decide +kernel, rfl, (fun h => absurd h (by decide)), fun _ => ⟨(bg_4 (List.mem_of_getElem? (i := 149) rfl) rfl), by decide, by decide⟩, fun _ => (bg_s (q := (yX7_worthOf, 27)) (List.mem_of_getElem? (i := 45) rfl)), (fun h => absurd h (by decide)), by decide⟩
theorem tx_k141 : tx_ok 141 := ⟨(bg_4 (List.mem_of_getElem? (i := 146) rfl) rfl), (bg_1 (List.mem_of_getElem? (i := 8) rfl) rfl), ⟨by decide +kernel, by decide +kernel, by decide +kernel⟩, by decide +kernel, rfl, (fun h => absurd h (by decide)), fun _ => ⟨(bg_4 (List.mem_of_getElem? (i := 144) rfl) rfl), by decide, by decide⟩, fun _ => (bg_4 (List.mem_of_getElem? (i := 145) rfl) rfl), (fun h => absurd h (by decide)), by decide⟩
theorem tx_k142 : tx_ok 142 := ⟨(bg_4 (List.mem_of_getElem? (i := 158) rfl) rfl), (bg_1 (List.mem_of_getElem? (i := 8) rfl) rfl), ⟨by decide +kernel, by decide +kernel, by decide +kernel⟩, by decide +kernel, rfl, (fun h => absurd h (by decide)), fun _ => ⟨(bg_4 (List.mem_of_getElem? (i := 157) rfl) rfl), by decide, by decide⟩, fun _ => (bg_s (q := (yX7_allDairies, 27)) (List.mem_of_getElem? (i := 46) rfl)), (fun h => absurd h (by decide)), by decide⟩
theorem tx_k143 : tx_ok 143 := ⟨(bg_4 (List.mem_of_getElem? (i := 154) rfl) rfl), (bg_1 (List.mem_of_getElem? (i := 8) rfl) rfl), ⟨by decide +kernel, by decide +kernel, by decide +kernel⟩, by decide +kernel, rfl, (fun h => absurd h (by decide)), fun _ => ⟨(bg_4 (List.mem_of_getElem? (i := 152) rfl) rfl), by decide, by decide⟩, fun _ => (bg_4 (List.mem_of_getElem? (i := 153) rfl) rfl), (fun h => absurd h (by decide)), by decide⟩
theorem tx_k144 : tx_ok 144 := ⟨(bg_4 (List.mem_of_getElem? (i := 162) rfl) rfl), (bg_1 (List.mem_of_getElem? (i := 8) rfl) rfl), ⟨by decide +kernel, by decide +kernel, by decide +kernel⟩, by decide +kernel, rfl, (fun h => absurd h (by decide)), fun _ => ⟨(bg_4 (List.mem_of_getElem? (i := 160) rfl) rfl), by decide, by decide⟩, fun _ => (bg_4 (List.mem_of_getElem? (i := 161) rfl) rfl), (fun h => absurd h (by decide)), by decide⟩
theorem tx_k145 : tx_ok 145 := ⟨(bg_4 (List.mem_of_getElem? (i := 171) rfl) rfl), (bg_1 (List.mem_of_getElem? (i := 8) rfl) rfl), ⟨by decide +kernel, by decide +kernel, by decide +kernel⟩, by decide +kernel, rfl, (fun h => absurd h (by decide)), fun _ => ⟨(bg_4 (List.mem_of_getElem? (i := 170) rfl) rfl), by decide, by decide⟩, fun _ => (bg_s (q := (yX7_canCheat, 27)) (List.mem_of_getElem? (i := 47) rfl)), (fun h => absurd h (by decide)), by decide⟩
theorem tx_k146 : tx_ok 146 := ⟨(bg_4 (List.mem_of_getElem? (i := 166) rfl) rfl), (bg_1 (List.mem_of_getElem? (i := 8) rfl) rfl), ⟨by decide +kernel, by decide +kernel, by decide +kernel⟩, by decide +kernel, rfl, (fun h => absurd h (by decide)), fun _ => ⟨(bg_4 (List.mem_of_getElem? (i := 164) rfl) rfl), by decide, by decide⟩, fun _ => (bg_4 (List.mem_of_getElem? (i := 165) rfl) rfl), (fun h => absurd h (by decide)), by decide⟩
theorem tx_k147 : tx_ok 147 := ⟨(bg_4 (List.mem_of_getElem? (i := 178) rfl) rfl), (bg_1 (List.mem_of_getElem? (i := 8) rfl) rfl), ⟨by decide +kernel, by decide +kernel, by decide +kernel⟩, by decide +kernel, rfl, (fun h => absurd h (by decide)), fun _ => ⟨(bg_4 (List.mem_of_getElem? (i := 176) rfl) rfl), by decide, by decide⟩, fun _ => (bg_4 (List.mem_of_getElem? (i := 177) rfl) rfl), (fun h => absurd h (by decide)), by decide⟩
theorem tx_k148 : tx_ok 148 := ⟨(bg_4 (List.mem_of_getElem? (i := 182) rfl) rfl), (bg_1 (List.mem_of_getElem? (i := 8) rfl) rfl), ⟨by decide +kernel, by decide +kernel, by decide +kernel⟩, by decide +kernel, rfl, (fun h => absurd h (by decide)), fun _ => ⟨(bg_4 (List.mem_of_getElem? (i := 180) rfl) rfl), by decide, by decide⟩, fun _ => (bg_4 (List.mem_of_getElem? (i := 181) rfl) rfl), (fun h => absurd h (by decide)), by decide⟩
theorem tx_k149 : tx_ok 149 := ⟨(bg_4 (List.mem_of_getElem? (i := 186) rfl) rfl), (bg_1 (List.mem_of_getElem? (i := 8) rfl) rfl), ⟨by decide +kernel, by decide +kernel, by decide +kernel⟩, by decide +kernel, rfl, (fun h => absurd h (by decide)), fun _ => ⟨(bg_4 (List.mem_of_getElem? (i := 184) rfl) rfl), by decide, by decide⟩, fun _ => (bg_4 (List.mem_of_getElem? (i := 185) rfl) rfl), (fun h => absurd h (by decide)), by decide⟩
theorem tx_k150 : tx_ok 150 := ⟨(bg_4 (List.mem_of_getElem? (i := 193) rfl) rfl), (bg_1 (List.mem_of_getElem? (i := 8) rfl) rfl), ⟨by decide +kernel, by decide +kernel, by decide +kernel⟩, by decide +kernel, rfl, fun _ => (bg_4 (List.mem_of_getElem? (i := 192) rfl) rfl), (fun h => absurd h (by decide)), (fun h => absurd h (by decide)), (fun h => absurd h (by decide)), by decide⟩
theorem tx_k151 : tx_ok 151 := ⟨(bg_4 (List.mem_of_getElem? (i := 196) rfl) rfl), (bg_1 (List.mem_of_getElem? (i := 8) rfl) rfl), ⟨by decide +kernel, by decide +kernel, by decide +kernel⟩, by decide +kernel, rfl, fun _ => (bg_4 (List.mem_of_getElem? (i := 195) rfl) rfl), (fun h => absurd h (by decide)), (fun h => absurd h (by decide)), (fun h => absurd h (by decide)), by decide⟩
theorem tx_k152 : tx_ok 152 := ⟨(bg_4 (List.mem_of_getElem? (i := 190) rfl) rfl), (bg_1 (List.mem_of_getElem? (i := 8) rfl) rfl), ⟨by decide +kernel, by decide +kernel, by decide +kernel⟩, by decide +kernel, rfl, (fun h => absurd h (by decide)), fun _ => ⟨(bg_4 (List.mem_of_getElem? (i := 188) rfl) rfl), by decide, by decide⟩, fun _ => (bg_4 (List.mem_of_getElem? (i := 189) rfl) rfl), (fun h => absurd h (by decide)), by decide⟩
theorem tx_k153 : tx_ok 153 := ⟨(bg_4 (List.mem_of_getElem? (i := 200) rfl) rfl), (bg_1 (List.mem_of_getElem? (i := 8) rfl) rfl), ⟨by decide +kernel, by decide +kernel, by decide +kernel⟩, by decide +kernel, rfl, (fun h => absurd h (by decide)), fun _ => ⟨(bg_4 (List.mem_of_getElem? (i := 198) rfl) rfl), by decide, by decide⟩, fun _ => (bg_4 (List.mem_of_getElem? (i := 199) rfl) rfl), (fun h => absurd h (by decide)), by decide⟩
theorem tx_k154 : tx_ok 154 := ⟨(bg_4 (List.mem_of_getElem? (i := 210) rfl) rfl), (bg_1 (List.mem_of_getElem? (i := 8) rfl) rfl), ⟨by decide +kernel, by decide +kernel, by decide +kernel⟩, by decide +kernel, rfl, (fun h => absurd h (by decide)), fun _ => ⟨(bg_4 (List.mem_of_getElem? (i := 208) rfl) rfl), by decide, by decide⟩, fun _ => (bg_4 (List.mem_of_getElem? (i := 209) rfl) rfl), (fun h => absurd h (by decide)), by decide⟩
theorem tx_k155 : tx_ok 155 := ⟨(bg_4 (List.mem_of_getElem? (i := 214) rfl) rfl), (bg_1 (List.mem_of_getElem? (i := 8) rfl) rfl), ⟨by decide +kernel, by decide +kernel, by decide +kernel⟩, by decide +kernel, rfl, (fun h => absurd h (by decide)), fun _ => ⟨(bg_4 (List.mem_of_getElem? (i := 212) rfl) rfl), by decide, by decide⟩, fun _ => (bg_4 (List.mem_of_getElem? (i := 213) rfl) rfl), (fun h => absurd h (by decide)), by decide⟩
theorem tx_k156 : tx_ok 156 := ⟨(bg_4 (List.mem_of_getElem? (i := 218) rfl) rfl), (bg_1 (List.mem_of_getElem? (i := 8) rfl) rfl), ⟨by decide +kernel, by decide +kernel, by decide +kernel⟩, by decide +kernel, rfl, (fun h => absurd h (by decide)), fun _ => ⟨(bg_4 (List.mem_of_getElem? (i := 216) rfl) rfl), by decide, by decide⟩, fun _ => (bg_4 (List.mem_of_getElem? (i := 217) rfl) rfl), (fun h => absurd h (by decide)), by decide⟩
theorem tx_k157 : tx_ok 157 := ⟨(bg_4 (List.mem_of_getElem? (i := 222) rfl) rfl), (bg_1 (List.mem_of_getElem? (i := 8) rfl) rfl), ⟨by decide +kernel, by decide +kernel, by decide +kernel⟩, by decide +kernel, rfl, (fun h => absurd h (by decide)), fun _ => ⟨(bg_4 (List.mem_of_getElem? (i := 220) rfl) rfl), by decide, by decide⟩, fun _ => (bg_4 (List.mem_of_getElem? (i := 221) rfl) rfl), (fun h => absurd h (by decide)), by decide⟩
theorem tx_k158 : tx_ok 158 := ⟨(bg_3 (List.mem_of_getElem? (i := 48) rfl) rfl), (bg_1 (List.mem_of_getElem? (i := 10) rfl) rfl), ⟨by decide +kernel, by decide +kernel, by decide +kernel⟩, by decide +kernel, rfl, fun _ => (bg_3 (List.mem_of_getElem? (i := 47) rfl) rfl), (fun h => absurd h (by decide)), (fun h => absurd h (by decide)), (fun h => absurd h (by decide)), by decide⟩
theorem tx_all : ∀ k, k < 159 → tx_ok k := by
  intro k hk
  match k, hk with
  | 0, _ => exact tx_k0
  | 1, _ => exact tx_k1
  | 2, _ => exact tx_k2
  | 3, _ => exact tx_k3
  | 4, _ => exact tx_k4
  | 5, _ => exact tx_k5
  | 6, _ => exact tx_k6
  | 7, _ => exact tx_k7
  | 8, _ => exact tx_k8
  | 9, _ => exact tx_k9
  | 10, _ => exact tx_k10
  | 11, _ => exact tx_k11
  | 12, _ => exact tx_k12
  | 13, _ => exact tx_k13
  | 14, _ => exact tx_k14
  | 15, _ => exact tx_k15
  | 16, _ => exact tx_k16
  | 17, _ => exact tx_k17
  | 18, _ => exact tx_k18
  | 19, _ => exact tx_k19
  | 20, _ => exact tx_k20
  | 21, _ => exact tx_k21
  | 22, _ => exact tx_k22
  | 23, _ => exact tx_k23
  | 24, _ => exact tx_k24
  | 25, _ => exact tx_k25
  | 26, _ => exact tx_k26
  | 27, _ => exact tx_k27
  | 28, _ => exact tx_k28
  | 29, _ => exact tx_k29
  | 30, _ => exact tx_k30
  | 31, _ => exact tx_k31
  | 32, _ => exact tx_k32
  | 33, _ => exact tx_k33
  | 34, _ => exact tx_k34
  | 35, _ => exact tx_k35
  | 36, _ => exact tx_k36
  | 37, _ => exact tx_k37
  | 38, _ => exact tx_k38
  | 39, _ => exact tx_k39
  | 40, _ => exact tx_k40
  | 41, _ => exact tx_k41
  | 42, _ => exact tx_k42
  | 43, _ => exact tx_k43
  | 44, _ => exact tx_k44
  | 45, _ => exact tx_k45
  | 46, _ => exact tx_k46
  | 47, _ => exact tx_k47
  | 48, _ => exact tx_k48
  | 49, _ => exact tx_k49
  | 50, _ => exact tx_k50
  | 51, _ => exact tx_k51
  | 52, _ => exact tx_k52
  | 53, _ => exact tx_k53
  | 54, _ => exact tx_k54
  | 55, _ => exact tx_k55
  | 56, _ => exact tx_k56
  | 57, _ => exact tx_k57
  | 58, _ => exact tx_k58
  | 59, _ => exact tx_k59
  | 60, _ => exact tx_k60
  | 61, _ => exact tx_k61
  | 62, _ => exact tx_k62
  | 63, _ => exact tx_k63
  | 64, _ => exact tx_k64
  | 65, _ => exact tx_k65
  | 66, _ => exact tx_k66
  | 67, _ => exact tx_k67
  | 68, _ => exact tx_k68
  | 69, _ => exact tx_k69
  | 70, _ => exact tx_k70
  | 71, _ => exact tx_k71
  | 72, _ => exact tx_k72
  | 73, _ => exact tx_k73
  | 74, _ => exact tx_k74
  | 75, _ => exact tx_k75
  | 76, _ => exact tx_k76
  | 77, _ => exact tx_k77
  | 78, _ => exact tx_k78
  | 79, _ => exact tx_k79
  | 80, _ => exact tx_k80
  | 81, _ => exact tx_k81
  | 82, _ => exact tx_k82
  | 83, _ => exact tx_k83
  | 84, _ => exact tx_k84
  | 85, _ => exact tx_k85
  | 86, _ => exact tx_k86
  | 87, _ => exact tx_k87
  | 88, _ => exact tx_k88
  | 89, _ => exact tx_k89
  | 90, _ => exact tx_k90
  | 91, _ => exact tx_k91
  | 92, _ => exact tx_k92
  | 93, _ => exact tx_k93
  | 94, _ => exact tx_k94
  | 95, _ => exact tx_k95
  | 96, _ => exact tx_k96
  | 97, _ => exact tx_k97
  | 98, _ => exact tx_k98
  | 99, _ => exact tx_k99
  | 100, _ => exact tx_k100
  | 101, _ => exact tx_k101
  | 102, _ => exact tx_k102
  | 103, _ => exact tx_k103
  | 104, _ => exact tx_k104
  | 105, _ => exact tx_k105
  | 106, _ => exact tx_k106
  | 107, _ => exact tx_k107
  | 108, _ => exact tx_k108
  | 109, _ => exact tx_k109
  | 110, _ => exact tx_k110
  | 111, _ => exact tx_k111
  | 112, _ => exact tx_k112
  | 113, _ => exact tx_k113
  | 114, _ => exact tx_k114
  | 115, _ => exact tx_k115
  | 116, _ => exact tx_k116
  | 117, _ => exact tx_k117
  | 118, _ => exact tx_k118
  | 119, _ => exact tx_k119
  | 120, _ => exact tx_k120
  | 121, _ => exact tx_k121
  | 122, _ => exact tx_k122
  | 123, _ => exact tx_k123
  | 124, _ => exact tx_k124
  | 125, _ => exact tx_k125
  | 126, _ => exact tx_k126
  | 127, _ => exact tx_k127
  | 128, _ => exact tx_k128
  | 129, _ => exact tx_k129
  | 130, _ => exact tx_k130
  | 131, _ => exact tx_k131
  | 132, _ => exact tx_k132
  | 133, _ => exact tx_k133
  | 134, _ => exact tx_k134
  | 135, _ => exact tx_k135
  | 136, _ => exact tx_k136
  | 137, _ => exact tx_k137
  | 138, _ => exact tx_k138
  | 139, _ => exact tx_k139
  | 140, _ => exact tx_k140
  | 141, _ => exact tx_k141
  | 142, _ => exact tx_k142
  | 143, _ => exact tx_k143
  | 144, _ => exact tx_k144
  | 145, _ => exact tx_k145
  | 146, _ => exact tx_k146
  | 147, _ => exact tx_k147
  | 148, _ => exact tx_k148
  | 149, _ => exact tx_k149
  | 150, _ => exact tx_k150
  | 151, _ => exact tx_k151
  | 152, _ => exact tx_k152
  | 153, _ => exact tx_k153
  | 154, _ => exact tx_k154
  | 155, _ => exact tx_k155
  | 156, _ => exact tx_k156
  | 157, _ => exact tx_k157
  | 158, _ => exact tx_k158
  | n + 159, h => exact absurd h (by omega)
/-- own class, pool number, class, field -/
def tx_F : List (Nat × Nat × Nat × Nat) := [(0, 9, 0, 0), (0, 15, 0, 1), (0, 19, 0, 2), (0, 22, 0, 3), (0, 25, 0, 4), (0, 28, 0, 5), (0, 31, 0, 6), (0, 34, 0, 7), (0, 37, 0, 8), (0, 40, 0, 9), (1, 9, 1, 0), (1, 15, 1, 1), (1, 19, 1, 2), (1, 22, 1, 3), (1, 25, 1, 4), (2, 9, 2, 0), (2, 15, 2, 1), (2, 20, 2, 2), (3, 9, 3, 0), (3, 15, 3, 1), (3, 18, 3, 2), (3, 21, 3, 3), (3, 24, 3, 4), (3, 28, 3, 5), (3, 32, 3, 6), (3, 35, 3, 7), (3, 38, 3, 8), (3, 41, 3, 9), (3, 44, 3, 10), (4, 9, 4, 0), (4, 15, 4, 1), (4, 19, 4, 2), (5, 9, 5, 0), (5, 13, 5, 1), (5, 16, 5, 2), (5, 19, 5, 3), (6, 10, 6, 0), (6, 19, 6, 1), (6, 23, 6, 2), (6, 29, 6, 3), (6, 36, 6, 4), (6, 40, 6, 5), (6, 44, 6, 6), (6, 51, 6, 7), (6, 58, 6, 8), (6, 62, 6, 9), (6, 74, 1, 0), (6, 110, 0, 0), (6, 113, 0, 2), (6, 116, 0, 3), (6, 119, 0, 4), (6, 126, 0, 5), (6, 129, 0, 6), (6, 132, 0, 7), (6, 136, 0, 8), (6, 142, 2, 0), (6, 145, 0, 9), (6, 153, 0, 1), (6, 202, 4, 0), (6, 215, 3, 2), (6, 234, 5, 0), (6, 237, 5, 1), (6, 272, 3, 0), (6, 275, 3, 1), (6, 278, 3, 3), (7, 7, 7, 2), (7, 13, 7, 9), (7, 16, 7, 11), (7, 19, 7, 12), (7, 22, 7, 13), (7, 25, 7, 14), (7, 28, 7, 15), (7, 31, 7, 16), (7, 34, 7, 17), (7, 37, 7, 18), (7, 40, 7, 19), (7, 44, 7, 20), (7, 47, 7, 22), (7, 50, 7, 23), (7, 53, 7, 25), (7, 56, 7, 26), (7, 65, 7, 0), (7, 73, 7, 3), (7, 76, 7, 4), (7, 83, 7, 6), (7, 86, 7, 5), (7, 89, 7, 7), (7, 92, 7, 8), (7, 106, 7, 10), (7, 121, 7, 24), (7, 124, 7, 21), (7, 179, 7, 1)]
def tx_fok (q : Nat × Nat × Nat × Nat) : Prop := q.2.2.1 < 8 ∧ q.2.2.2 < tx_N q.2.2.1 ∧ Cond.fieldLink (tx_R q.1) q.2.1 (tx_T q.2.2.1 q.2.2.2).1 (tx_T q.2.2.1 q.2.2.2).2.1 (tx_T q.2.2.1 q.2.2.2).2.2.1 ∈ tx_B
theorem tx_f0 : tx_fok (0, 9, 0, 0) := ⟨by decide, by decide, (bg_1 (List.mem_of_getElem? (i := 93) rfl) rfl)⟩
theorem tx_f1 : tx_fok (0, 15, 0, 1) := ⟨by decide, by decide, (bg_1 (List.mem_of_getElem? (i := 95) rfl) rfl)⟩
theorem tx_f2 : tx_fok (0, 19, 0, 2) := ⟨by decide, by decide, (bg_1 (List.mem_of_getElem? (i := 97) rfl) rfl)⟩
theorem tx_f3 : tx_fok (0, 22, 0, 3) := ⟨by decide, by decide, (bg_1 (List.mem_of_getElem? (i := 99) rfl) rfl)⟩
theorem tx_f4 : tx_fok (0, 25, 0, 4) := ⟨by decide, by decide, (bg_1 (List.mem_of_getElem? (i := 101) rfl) rfl)⟩
theorem tx_f5 : tx_fok (0, 28, 0, 5) := ⟨by decide, by decide, (bg_1 (List.mem_of_getElem? (i := 103) rfl) rfl)⟩
theorem tx_f6 : tx_fok (0, 31, 0, 6) := ⟨by decide, by decide, (bg_1 (List.mem_of_getElem? (i := 105) rfl) rfl)⟩
theorem tx_f7 : tx_fok (0, 34, 0, 7) := ⟨by decide, by decide, (bg_1 (List.mem_of_getElem? (i := 107) rfl) rfl)⟩
theorem tx_f8 : tx_fok (0, 37, 0, 8) := ⟨by decide, by decide, (bg_1 (List.mem_of_getElem? (i := 109) rfl) rfl)⟩
theorem tx_f9 : tx_fok (0, 40, 0, 9) := ⟨by decide, by decide, (bg_1 (List.mem_of_getElem? (i := 111) rfl) rfl)⟩
theorem tx_f10 : tx_fok (1, 9, 1, 0) := ⟨by decide, by decide, (bg_1 (List.mem_of_getElem? (i := 25) rfl) rfl)⟩
theorem tx_f11 : tx_fok (1, 15, 1, 1) := ⟨by decide, by decide, (bg_1 (List.mem_of_getElem? (i := 27) rfl) rfl)⟩
theorem tx_f12 : tx_fok (1, 19, 1, 2) := ⟨by decide, by decide, (bg_1 (List.mem_of_getElem? (i := 28) rfl) rfl)⟩
theorem tx_f13 : tx_fok (1, 22, 1, 3) := ⟨by decide, by decide, (bg_1 (List.mem_of_getElem? (i := 29) rfl) rfl)⟩
theorem tx_f14 : tx_fok (1, 25, 1, 4) := ⟨by decide, by decide, (bg_1 (List.mem_of_getElem? (i := 30) rfl) rfl)⟩
theorem tx_f15 : tx_fok (2, 9, 2, 0) := ⟨by decide, by decide, (bg_1 (List.mem_of_getElem? (i := 143) rfl) rfl)⟩
theorem tx_f16 : tx_fok (2, 15, 2, 1) := ⟨by decide, by decide, (bg_1 (List.mem_of_getElem? (i := 145) rfl) rfl)⟩
theorem tx_f17 : tx_fok (2, 20, 2, 2) := ⟨by decide, by decide, (bg_1 (List.mem_of_getElem? (i := 146) rfl) rfl)⟩
theorem tx_f18 : tx_fok (3, 9, 3, 0) := ⟨by decide, by decide, (bg_1 (List.mem_of_getElem? (i := 49) rfl) rfl)⟩
theorem tx_f19 : tx_fok (3, 15, 3, 1) := ⟨by decide, by decide, (bg_1 (List.mem_of_getElem? (i := 51) rfl) rfl)⟩
theorem tx_f20 : tx_fok (3, 18, 3, 2) := ⟨by decide, by decide, (bg_1 (List.mem_of_getElem? (i := 53) rfl) rfl)⟩
theorem tx_f21 : tx_fok (3, 21, 3, 3) := ⟨by decide, by decide, (bg_1 (List.mem_of_getElem? (i := 55) rfl) rfl)⟩
theorem tx_f22 : tx_fok (3, 24, 3, 4) := ⟨by decide, by decide, (bg_1 (List.mem_of_getElem? (i := 57) rfl) rfl)⟩
theorem tx_f23 : tx_fok (3, 28, 3, 5) := ⟨by decide, by decide, (bg_1 (List.mem_of_getElem? (i := 58) rfl) rfl)⟩
theorem tx_f24 : tx_fok (3, 32, 3, 6) := ⟨by decide, by decide, (bg_1 (List.mem_of_getElem? (i := 59) rfl) rfl)⟩
theorem tx_f25 : tx_fok (3, 35, 3, 7) := ⟨by decide, by decide, (bg_1 (List.mem_of_getElem? (i := 60) rfl) rfl)⟩
theorem tx_f26 : tx_fok (3, 38, 3, 8) := ⟨by decide, by decide, (bg_1 (List.mem_of_getElem? (i := 61) rfl) rfl)⟩
theorem tx_f27 : tx_fok (3, 41, 3, 9) := ⟨by decide, by decide, (bg_1 (List.mem_of_getElem? (i := 62) rfl) rfl)⟩
theorem tx_f28 : tx_fok (3, 44, 3, 10) := ⟨by decide, by decide, (bg_1 (List.mem_of_getElem? (i := 63) rfl) rfl)⟩
theorem tx_f29 : tx_fok (4, 9, 4, 0) := ⟨by decide, by decide, (bg_1 (List.mem_of_getElem? (i := 160) rfl) rfl)⟩
theorem tx_f30 : tx_fok (4, 15, 4, 1) := ⟨by decide, by decide, (bg_1 (List.mem_of_getElem? (i := 162) rfl) rfl)⟩
theorem tx_f31 : tx_fok (4, 19, 4, 2) := ⟨by decide, by decide, (bg_1 (List.mem_of_getElem? (i := 163) rfl) rfl)⟩
theorem tx_f32 : tx_fok (5, 9, 5, 0) := ⟨by decide, by decide, (bg_1 (List.mem_of_getElem? (i := 178) rfl) rfl)⟩
theorem tx_f33 : tx_fok (5, 13, 5, 1) := ⟨by decide, by decide, (bg_1 (List.mem_of_getElem? (i := 180) rfl) rfl)⟩
theorem tx_f34 : tx_fok (5, 16, 5, 2) := ⟨by decide, by decide, (bg_1 (List.mem_of_getElem? (i := 182) rfl) rfl)⟩
theorem tx_f35 : tx_fok (5, 19, 5, 3) := ⟨by decide, by decide, (bg_1 (List.mem_of_getElem? (i := 183) rfl) rfl)⟩
theorem tx_f36 : tx_fok (6, 10, 6, 0) := ⟨by decide, by decide, (bg_1 (List.mem_of_getElem? (i := 193) rfl) rfl)⟩
theorem tx_f37 : tx_fok (6, 19, 6, 1) := ⟨by decide, by decide, (bg_1 (List.mem_of_getElem? (i := 194) rfl) rfl)⟩
theorem tx_f38 : tx_fok (6, 23, 6, 2) := ⟨by decide, by decide, (bg_1 (List.mem_of_getElem? (i := 195) rfl) rfl)⟩
theorem tx_f39 : tx_fok (6, 29, 6, 3) := ⟨by decide, by decide, (bg_1 (List.mem_of_getElem? (i := 196) rfl) rfl)⟩
theorem tx_f40 : tx_fok (6, 36, 6, 4) := ⟨by decide, by decide, (bg_1 (List.mem_of_getElem? (i := 197) rfl) rfl)⟩
theorem tx_f41 : tx_fok (6, 40, 6, 5) := ⟨by decide, by decide, (bg_1 (List.mem_of_getElem? (i := 198) rfl) rfl)⟩
theorem tx_f42 : tx_fok (6, 44, 6, 6) := ⟨by decide, by decide, (bg_1 (List.mem_of_getElem? (i := 199) rfl) rfl)⟩
theorem tx_f43 : tx_fok (6, 51, 6, 7) := ⟨by decide, by decide, (bg_1 (List.mem_of_getElem? (i := 200) rfl) rfl)⟩
theorem tx_f44 : tx_fok (6, 58, 6, 8) := ⟨by decide, by decide, (bg_1 (List.mem_of_getElem? (i := 201) rfl) rfl)⟩
theorem tx_f45 : tx_fok (6, 62, 6, 9) := ⟨by decide, by decide, (bg_1 (List.mem_of_getElem? (i := 202) rfl) rfl)⟩
theorem tx_f46 : tx_fok (6, 74, 1, 0) := ⟨by decide, by decide, (bg_1 (List.mem_of_getElem? (i := 26) rfl) rfl)⟩
theorem tx_f47 : tx_fok (6, 110, 0, 0) := ⟨by decide, by decide, (bg_1 (List.mem_of_getElem? (i := 94) rfl) rfl)⟩
theorem tx_f48 : tx_fok (6, 113, 0, 2) := ⟨by decide, by decide, (bg_1 (List.mem_of_getElem? (i := 98) rfl) rfl)⟩
theorem tx_f49 : tx_fok (6, 116, 0, 3) := ⟨by decide, by decide, (bg_1 (List.mem_of_getElem? (i := 100) rfl) rfl)⟩
theorem tx_f50 : tx_fok (6, 119, 0, 4) := ⟨by decide, by decide, (bg_1 (List.mem_of_getElem? (i := 102) rfl) rfl)⟩
theorem tx_f51 : tx_fok (6, 126, 0, 5) := ⟨by decide, by decide, (bg_1 (List.mem_of_getElem? (i := 104) rfl) rfl)⟩
theorem tx_f52 : tx_fok (6, 129, 0, 6) := ⟨by decide, by decide, (bg_1 (List.mem_of_getElem? (i := 106) rfl) rfl)⟩
theorem tx_f53 : tx_fok (6, 132, 0, 7) := ⟨by decide, by decide, (bg_1 (List.mem_of_getElem? (i := 108) rfl) rfl)⟩
theorem tx_f54 : tx_fok (6, 136, 0, 8) := ⟨by decide, by decide, (bg_1 (List.mem_of_getElem? (i := 110) rfl) rfl)⟩
theorem tx_f55 : tx_fok (6, 142, 2, 0) := ⟨by decide, by decide, (bg_1 (List.mem_of_getElem? (i := 144) rfl) rfl)⟩
theorem tx_f56 : tx_fok (6, 145, 0, 9) := ⟨by decide, by decide, (bg_1 (List.mem_of_getElem? (i := 112) rfl) rfl)⟩
theorem tx_f57 : tx_fok (6, 153, 0, 1) := ⟨by decide, by decide, (bg_1 (List.mem_of_getElem? (i := 96) rfl) rfl)⟩
theorem tx_f58 : tx_fok (6, 202, 4, 0) := ⟨by decide, by decide, (bg_1 (List.mem_of_getElem? (i := 161) rfl) rfl)⟩
theorem tx_f59 : tx_fok (6, 215, 3, 2) := ⟨by decide, by decide, (bg_1 (List.mem_of_getElem? (i := 54) rfl) rfl)⟩
theorem tx_f60 : tx_fok (6, 234, 5, 0) := ⟨by decide, by decide, (bg_1 (List.mem_of_getElem? (i := 179) rfl) rfl)⟩
theorem tx_f61 : tx_fok (6, 237, 5, 1) := ⟨by decide, by decide, (bg_1 (List.mem_of_getElem? (i := 181) rfl) rfl)⟩
theorem tx_f62 : tx_fok (6, 272, 3, 0) := ⟨by decide, by decide, (bg_1 (List.mem_of_getElem? (i := 50) rfl) rfl)⟩
theorem tx_f63 : tx_fok (6, 275, 3, 1) := ⟨by decide, by decide, (bg_1 (List.mem_of_getElem? (i := 52) rfl) rfl)⟩
theorem tx_f64 : tx_fok (6, 278, 3, 3) := ⟨by decide, by decide, (bg_1 (List.mem_of_getElem? (i := 56) rfl) rfl)⟩
theorem tx_f65 : tx_fok (7, 7, 7, 2) := ⟨by decide, by decide, (bg_3 (List.mem_of_getElem? (i := 172) rfl) rfl)⟩
theorem tx_f66 : tx_fok (7, 13, 7, 9) := ⟨by decide, by decide, (bg_3 (List.mem_of_getElem? (i := 179) rfl) rfl)⟩
theorem tx_f67 : tx_fok (7, 16, 7, 11) := ⟨by decide, by decide, (bg_3 (List.mem_of_getElem? (i := 181) rfl) rfl)⟩
theorem tx_f68 : tx_fok (7, 19, 7, 12) := ⟨by decide, by decide, (bg_3 (List.mem_of_getElem? (i := 182) rfl) rfl)⟩
theorem tx_f69 : tx_fok (7, 22, 7, 13) := ⟨by decide, by decide, (bg_3 (List.mem_of_getElem? (i := 183) rfl) rfl)⟩
theorem tx_f70 : tx_fok (7, 25, 7, 14) := ⟨by decide, by decide, (bg_3 (List.mem_of_getElem? (i := 184) rfl) rfl)⟩
theorem tx_f71 : tx_fok (7, 28, 7, 15) := ⟨by decide, by decide, (bg_3 (List.mem_of_getElem? (i := 185) rfl) rfl)⟩
theorem tx_f72 : tx_fok (7, 31, 7, 16) := ⟨by decide, by decide, (bg_3 (List.mem_of_getElem? (i := 186) rfl) rfl)⟩
theorem tx_f73 : tx_fok (7, 34, 7, 17) := ⟨by decide, by decide, (bg_3 (List.mem_of_getElem? (i := 187) rfl) rfl)⟩
theorem tx_f74 : tx_fok (7, 37, 7, 18) := ⟨by decide, by decide, (bg_3 (List.mem_of_getElem? (i := 188) rfl) rfl)⟩
theorem tx_f75 : tx_fok (7, 40, 7, 19) := ⟨by decide, by decide, (bg_3 (List.mem_of_getElem? (i := 189) rfl) rfl)⟩
theorem tx_f76 : tx_fok (7, 44, 7, 20) := ⟨by decide, by decide, (bg_3 (List.mem_of_getElem? (i := 190) rfl) rfl)⟩
theorem tx_f77 : tx_fok (7, 47, 7, 22) := ⟨by decide, by decide, (bg_3 (List.mem_of_getElem? (i := 192) rfl) rfl)⟩
theorem tx_f78 : tx_fok (7, 50, 7, 23) := ⟨by decide, by decide, (bg_3 (List.mem_of_getElem? (i := 193) rfl) rfl)⟩
theorem tx_f79 : tx_fok (7, 53, 7, 25) := ⟨by decide, by decide, (bg_3 (List.mem_of_getElem? (i := 195) rfl) rfl)⟩
theorem tx_f80 : tx_fok (7, 56, 7, 26) := ⟨by decide, by decide, (bg_3 (List.mem_of_getElem? (i := 196) rfl) rfl)⟩
theorem tx_f81 : tx_fok (7, 65, 7, 0) := ⟨by decide, by decide, (bg_3 (List.mem_of_getElem? (i := 170) rfl) rfl)⟩
theorem tx_f82 : tx_fok (7, 73, 7, 3) := ⟨by decide, by decide, (bg_3 (List.mem_of_getElem? (i := 173) rfl) rfl)⟩
theorem tx_f83 : tx_fok (7, 76, 7, 4) := ⟨by decide, by decide, (bg_3 (List.mem_of_getElem? (i := 174) rfl) rfl)⟩
theorem tx_f84 : tx_fok (7, 83, 7, 6) := ⟨by decide, by decide, (bg_3 (List.mem_of_getElem? (i := 176) rfl) rfl)⟩
theorem tx_f85 : tx_fok (7, 86, 7, 5) := ⟨by decide, by decide, (bg_3 (List.mem_of_getElem? (i := 175) rfl) rfl)⟩
theorem tx_f86 : tx_fok (7, 89, 7, 7) := ⟨by decide, by decide, (bg_3 (List.mem_of_getElem? (i := 177) rfl) rfl)⟩
theorem tx_f87 : tx_fok (7, 92, 7, 8) := ⟨by decide, by decide, (bg_3 (List.mem_of_getElem? (i := 178) rfl) rfl)⟩
theorem tx_f88 : tx_fok (7, 106, 7, 10) := ⟨by decide, by decide, (bg_3 (List.mem_of_getElem? (i := 180) rfl) rfl)⟩
theorem tx_f89 : tx_fok (7, 121, 7, 24) := ⟨by decide, by decide, (bg_3 (List.mem_of_getElem? (i := 194) rfl) rfl)⟩
theorem tx_f90 : tx_fok (7, 124, 7, 21) := ⟨by decide, by decide, (bg_3 (List.mem_of_getElem? (i := 191) rfl) rfl)⟩
theorem tx_f91 : tx_fok (7, 179, 7, 1) := ⟨by decide, by decide, (bg_3 (List.mem_of_getElem? (i := 171) rfl) rfl)⟩
set_option maxRecDepth 20000 in
theorem tx_F_ok : ∀ q ∈ tx_F, tx_fok q := List.forall_mem_cons.mpr ⟨tx_f0, List.forall_mem_cons.mpr ⟨tx_f1, List.forall_mem_cons.mpr ⟨tx_f2, List.forall_mem_cons.mpr ⟨tx_f3, List.forall_mem_cons.mpr ⟨tx_f4, List.forall_mem_cons.mpr ⟨tx_f5, List.forall_mem_cons.mpr ⟨tx_f6, List.forall_mem_cons.mpr ⟨tx_f7, List.forall_mem_cons.mpr ⟨tx_f8, List.forall_mem_cons.mpr ⟨tx_f9, List.forall_mem_cons.mpr ⟨tx_f10, List.forall_mem_cons.mpr ⟨tx_f11, List.forall_mem_cons.mpr ⟨tx_f12, List.forall_mem_cons.mpr ⟨tx_f13, List.forall_mem_cons.mpr ⟨tx_f14, List.forall_mem_cons.mpr ⟨tx_f15, List.forall_mem_cons.mpr ⟨tx_f16, List.forall_mem_cons.mpr ⟨tx_f17, List.forall_mem_cons.mpr ⟨tx_f18, List.forall_mem_cons.mpr ⟨tx_f19, List.forall_mem_cons.mpr ⟨tx_f20, List.forall_mem_cons.mpr ⟨tx_f21, List.forall_mem_cons.mpr ⟨tx_f22, List.forall_mem_cons.mpr ⟨tx_f23, List.forall_mem_cons.mpr ⟨tx_f24, List.forall_mem_cons.mpr ⟨tx_f25, List.forall_mem_cons.mpr ⟨tx_f26, List.forall_mem_cons.mpr ⟨tx_f27, List.forall_mem_cons.mpr ⟨tx_f28, List.forall_mem_cons.mpr ⟨tx_f29, List.forall_mem_cons.mpr ⟨tx_f30, List.forall_mem_cons.mpr ⟨tx_f31, List.forall_mem_cons.mpr ⟨tx_f32, List.forall_mem_cons.mpr ⟨tx_f33, List.forall_mem_cons.mpr ⟨tx_f34, List.forall_mem_cons.mpr ⟨tx_f35, List.forall_mem_cons.mpr ⟨tx_f36, List.forall_mem_cons.mpr ⟨tx_f37, List.forall_mem_cons.mpr ⟨tx_f38, List.forall_mem_cons.mpr ⟨tx_f39, List.forall_mem_cons.mpr ⟨tx_f40, List.forall_mem_cons.mpr ⟨tx_f41, List.forall_mem_cons.mpr ⟨tx_f42, List.forall_mem_cons.mpr ⟨tx_f43, List.forall_mem_cons.mpr ⟨tx_f44, List.forall_mem_cons.mpr ⟨tx_f45, List.forall_mem_cons.mpr ⟨tx_f46, List.forall_mem_cons.mpr ⟨tx_f47, List.forall_mem_cons.mpr ⟨tx_f48, List.forall_mem_cons.mpr ⟨tx_f49, List.forall_mem_cons.mpr ⟨tx_f50, List.forall_mem_cons.mpr ⟨tx_f51, List.forall_mem_cons.mpr ⟨tx_f52, List.forall_mem_cons.mpr ⟨tx_f53, List.forall_mem_cons.mpr ⟨tx_f54, List.forall_mem_cons.mpr ⟨tx_f55, List.forall_mem_cons.mpr ⟨tx_f56, List.forall_mem_cons.mpr ⟨tx_f57, List.forall_mem_cons.mpr ⟨tx_f58, List.forall_mem_cons.mpr ⟨tx_f59, List.forall_mem_cons.mpr ⟨tx_f60, List.forall_mem_cons.mpr ⟨tx_f61, List.forall_mem_cons.mpr ⟨tx_f62, List.forall_mem_cons.mpr ⟨tx_f63, List.forall_mem_cons.mpr ⟨tx_f64, List.forall_mem_cons.mpr ⟨tx_f65, List.forall_mem_cons.mpr ⟨tx_f66, List.forall_mem_cons.mpr ⟨tx_f67, List.forall_mem_cons.mpr ⟨tx_f68, List.forall_mem_cons.mpr ⟨tx_f69, List.forall_mem_cons.mpr ⟨tx_f70, List.forall_mem_cons.mpr ⟨tx_f71, List.forall_mem_cons.mpr ⟨tx_f72, List.forall_mem_cons.mpr ⟨tx_f73, List.forall_mem_cons.mpr ⟨tx_f74, List.forall_mem_cons.mpr ⟨tx_f75, List.forall_mem_cons.mpr ⟨tx_f76, List.forall_mem_cons.mpr ⟨tx_f77, List.forall_mem_cons.mpr ⟨tx_f78, List.forall_mem_cons.mpr ⟨tx_f79, List.forall_mem_cons.mpr ⟨tx_f80, List.forall_mem_cons.mpr ⟨tx_f81, List.forall_mem_cons.mpr ⟨tx_f82, List.forall_mem_cons.mpr ⟨tx_f83, List.forall_mem_cons.mpr ⟨tx_f84, List.forall_mem_cons.mpr ⟨tx_f85, List.forall_mem_cons.mpr ⟨tx_f86, List.forall_mem_cons.mpr ⟨tx_f87, List.forall_mem_cons.mpr ⟨tx_f88, List.forall_mem_cons.mpr ⟨tx_f89, List.forall_mem_cons.mpr ⟨tx_f90, List.forall_mem_cons.mpr ⟨tx_f91, fun _ h => absurd h List.not_mem_nil⟩⟩⟩⟩⟩⟩⟩⟩⟩⟩⟩⟩⟩⟩⟩⟩⟩⟩⟩⟩⟩⟩⟩⟩⟩⟩⟩⟩⟩⟩⟩⟩⟩⟩⟩⟩⟩⟩⟩⟩⟩⟩⟩⟩⟩⟩⟩⟩⟩⟩⟩⟩⟩⟩⟩⟩⟩⟩⟩⟩⟩⟩⟩⟩⟩⟩⟩⟩⟩⟩⟩⟩⟩⟩⟩⟩⟩⟩⟩⟩⟩⟩⟩⟩⟩⟩⟩⟩⟩⟩⟩⟩
/-- own class, pool number, callee, whether by the nest -/
def tx_C : List (Nat × Nat × Nat × Nat) := [(8, 9, 53, 0), (8, 12, 103, 0), (8, 13, 54, 0), (8, 17, 106, 0), (8, 18, 55, 0), (8, 22, 107, 0), (8, 23, 56, 0), (8, 26, 116, 0), (8, 27, 57, 0), (8, 31, 122, 0), (8, 32, 58, 0), (8, 35, 123, 0), (8, 36, 59, 0), (8, 39, 127, 0), (8, 40, 60, 0), (8, 43, 128, 0), (8, 44, 61, 0), (8, 47, 130, 0), (8, 48, 62, 0), (8, 51, 131, 0), (8, 52, 63, 0), (8, 55, 133, 0), (8, 56, 64, 0), (8, 59, 134, 0), (8, 60, 65, 0), (8, 63, 135, 0), (8, 64, 66, 0), (8, 67, 136, 0), (8, 68, 67, 0), (8, 71, 137, 0), (8, 72, 68, 0), (8, 75, 139, 0), (8, 76, 69, 0), (8, 79, 141, 0), (8, 80, 70, 0), (8, 83, 143, 0), (8, 84, 71, 0), (8, 87, 144, 0), (8, 88, 72, 0), (8, 91, 146, 0), (8, 92, 73, 0), (8, 95, 147, 0), (8, 96, 74, 0), (8, 99, 148, 0), (8, 100, 75, 0), (8, 104, 149, 0), (8, 105, 76, 0), (8, 109, 152, 0), (8, 110, 77, 0), (8, 113, 153, 0), (8, 114, 78, 0), (8, 117, 154, 0), (8, 118, 79, 0), (8, 121, 155, 0), (8, 122, 80, 0), (8, 125, 156, 0), (8, 126, 81, 0), (8, 130, 157, 0), (0, 44, 3, 0), (0, 54, 6, 0), (1, 28, 82, 1), (1, 32, 26, 0), (1, 37, 14, 0), (1, 41, 15, 0), (1, 44, 16, 0), (1, 48, 12, 0), (1, 51, 13, 0), (1, 55, 17, 0), (1, 59, 18, 0), (1, 63, 27, 0), (1, 66, 19, 0), (1, 69, 20, 0), (1, 73, 21, 0), (1, 76, 28, 0), (1, 80, 29, 0), (1, 84, 31, 0), (1, 88, 30, 0), (2, 24, 0, 1), (2, 25, 82, 1), (2, 29, 83, 1), (3, 47, 82, 1), (3, 51, 37, 0), (3, 55, 36, 0), (3, 58, 34, 0), (3, 61, 35, 0), (4, 22, 82, 1), (4, 26, 44, 0), (4, 30, 158, 0), (4, 36, 45, 0), (4, 39, 49, 0), (5, 23, 52, 0), (5, 27, 82, 1), (6, 9, 9, 1), (6, 18, 25, 1), (6, 28, 0, 1), (6, 35, 22, 0), (6, 50, 42, 1), (6, 57, 50, 1), (6, 66, 82, 0), (6, 70, 10, 0), (6, 78, 11, 0), (6, 82, 84, 0), (6, 85, 85, 0), (6, 88, 32, 0), (6, 92, 33, 0), (6, 95, 86, 0), (6, 98, 34, 0), (6, 101, 35, 0), (6, 104, 36, 0), (6, 107, 2, 0), (6, 122, 3, 0), (6, 139, 90, 0), (6, 149, 87, 0), (6, 156, 23, 0), (6, 160, 89, 0), (6, 163, 5, 0), (6, 166, 6, 0), (6, 169, 88, 0), (6, 172, 4, 0), (6, 175, 7, 0), (6, 179, 8, 0), (6, 182, 24, 0), (6, 186, 91, 0), (6, 189, 92, 0), (6, 192, 39, 0), (6, 195, 41, 0), (6, 198, 43, 0), (6, 203, 45, 0), (6, 206, 46, 0), (6, 209, 47, 0), (6, 212, 48, 0), (6, 218, 38, 0), (6, 227, 37, 0), (6, 230, 51, 0), (6, 240, 94, 0), (6, 243, 95, 0), (6, 246, 96, 0), (6, 250, 97, 0), (6, 253, 98, 0), (6, 256, 99, 0), (6, 259, 100, 0), (6, 262, 101, 0), (6, 265, 102, 0), (6, 268, 83, 0), (6, 281, 1, 0), (6, 287, 93, 0), (6, 290, 40, 0), (7, 59, 113, 0), (7, 62, 117, 0), (7, 69, 104, 0), (7, 79, 108, 0), (7, 95, 110, 0), (7, 99, 109, 0), (7, 102, 111, 0), (7, 110, 112, 0), (7, 114, 114, 0), (7, 117, 115, 0), (7, 127, 118, 0), (7, 131, 119, 0), (7, 134, 120, 0), (7, 137, 124, 0), (7, 141, 126, 0), (7, 144, 125, 0), (7, 147, 129, 0), (7, 150, 132, 0), (7, 153, 121, 0), (7, 156, 138, 0), (7, 159, 140, 0), (7, 162, 142, 0), (7, 166, 145, 0), (7, 169, 105, 0), (7, 172, 150, 0), (7, 175, 151, 0)]
def tx_nest : List (String × Nat × MethodName × String) := [(RX1, 28, yX6_within, RX6), (RX2, 24, yX0_init, RX6), (RX2, 25, yX6_within, RX6), (RX2, 29, yX6_copy, RX6), (RX3, 47, yX6_within, RX6), (RX4, 22, yX6_within, RX6), (RX5, 27, yX6_within, RX6), (RX6, 9, yX1_init, RX6), (RX6, 18, yX3_init, RX6), (RX6, 28, yX0_init, RX6), (RX6, 50, yX4_init, RX6), (RX6, 57, yX5_init, RX6)]
def tx_cok (q : Nat × Nat × Nat × Nat) : Prop := q.2.2.1 < 159 ∧ (q.2.2.2 = 0 → Cond.methodLink (tx_R q.1) q.2.1 (yO q.2.2.1) ∈ tx_B) ∧ (q.2.2.2 = 1 → (tx_R q.1, q.2.1, yO q.2.2.1, RX6) ∈ tx_nest)
theorem tx_c0 : tx_cok (8, 9, 53, 0) := ⟨by decide, fun _ => (bg_1 (List.mem_of_getElem? (i := 13) rfl) rfl), (fun h => absurd h (by decide))⟩
theorem tx_c1 : tx_cok (8, 12, 103, 0) := ⟨by decide, fun _ => (bg_3 (List.mem_of_getElem? (i := 158) rfl) rfl), (fun h => absurd h (by decide))⟩
theorem tx_c2 : tx_cok (8, 13, 54, 0) := ⟨by decide, fun _ => (bg_1 (List.mem_of_getElem? (i := 224) rfl) rfl), (fun h => absurd h (by decide))⟩
theorem tx_c3 : tx_cok (8, 17, 106, 0) := ⟨by decide, fun _ => (bg_4 (List.mem_of_getElem? (i := 12) rfl) rfl), (fun h => absurd h (by decide))⟩
theorem tx_c4 : tx_cok (8, 18, 55, 0) := ⟨by decide, fun _ => (bg_1 (List.mem_of_getElem? (i := 236) rfl) rfl), (fun h => absurd h (by decide))⟩
theorem tx_c5 : tx_cok (8, 22, 107, 0) := ⟨by decide, fun _ => (bg_4 (List.mem_of_getElem? (i := 19) rfl) rfl), (fun h => absurd h (by decide))⟩
theorem tx_c6 : tx_cok (8, 23, 56, 0) := ⟨by decide, fun _ => (bg_2 (List.mem_of_getElem? (i := 0) rfl) rfl), (fun h => absurd h (by decide))⟩
theorem tx_c7 : tx_cok (8, 26, 116, 0) := ⟨by decide, fun _ => (bg_4 (List.mem_of_getElem? (i := 23) rfl) rfl), (fun h => absurd h (by decide))⟩
theorem tx_c8 : tx_cok (8, 27, 57, 0) := ⟨by decide, fun _ => (bg_2 (List.mem_of_getElem? (i := 78) rfl) rfl), (fun h => absurd h (by decide))⟩
theorem tx_c9 : tx_cok (8, 31, 122, 0) := ⟨by decide, fun _ => (bg_4 (List.mem_of_getElem? (i := 55) rfl) rfl), (fun h => absurd h (by decide))⟩
theorem tx_c10 : tx_cok (8, 32, 58, 0) := ⟨by decide, fun _ => (bg_2 (List.mem_of_getElem? (i := 94) rfl) rfl), (fun h => absurd h (by decide))⟩
theorem tx_c11 : tx_cok (8, 35, 123, 0) := ⟨by decide, fun _ => (bg_4 (List.mem_of_getElem? (i := 63) rfl) rfl), (fun h => absurd h (by decide))⟩
theorem tx_c12 : tx_cok (8, 36, 59, 0) := ⟨by decide, fun _ => (bg_2 (List.mem_of_getElem? (i := 118) rfl) rfl), (fun h => absurd h (by decide))⟩
theorem tx_c13 : tx_cok (8, 39, 127, 0) := ⟨by decide, fun _ => (bg_4 (List.mem_of_getElem? (i := 71) rfl) rfl), (fun h => absurd h (by decide))⟩
theorem tx_c14 : tx_cok (8, 40, 60, 0) := ⟨by decide, fun _ => (bg_2 (List.mem_of_getElem? (i := 144) rfl) rfl), (fun h => absurd h (by decide))⟩
theorem tx_c15 : tx_cok (8, 43, 128, 0) := ⟨by decide, fun _ => (bg_4 (List.mem_of_getElem? (i := 91) rfl) rfl), (fun h => absurd h (by decide))⟩
theorem tx_c16 : tx_cok (8, 44, 61, 0) := ⟨by decide, fun _ => (bg_2 (List.mem_of_getElem? (i := 148) rfl) rfl), (fun h => absurd h (by decide))⟩
theorem tx_c17 : tx_cok (8, 47, 130, 0) := ⟨by decide, fun _ => (bg_4 (List.mem_of_getElem? (i := 95) rfl) rfl), (fun h => absurd h (by decide))⟩
theorem tx_c18 : tx_cok (8, 48, 62, 0) := ⟨by decide, fun _ => (bg_2 (List.mem_of_getElem? (i := 163) rfl) rfl), (fun h => absurd h (by decide))⟩
theorem tx_c19 : tx_cok (8, 51, 131, 0) := ⟨by decide, fun _ => (bg_4 (List.mem_of_getElem? (i := 103) rfl) rfl), (fun h => absurd h (by decide))⟩
theorem tx_c20 : tx_cok (8, 52, 63, 0) := ⟨by decide, fun _ => (bg_2 (List.mem_of_getElem? (i := 171) rfl) rfl), (fun h => absurd h (by decide))⟩
theorem tx_c21 : tx_cok (8, 55, 133, 0) := ⟨by decide, fun _ => (bg_4 (List.mem_of_getElem? (i := 107) rfl) rfl), (fun h => absurd h (by decide))⟩
theorem tx_c22 : tx_cok (8, 56, 64, 0) := ⟨by decide, fun _ => (bg_2 (List.mem_of_getElem? (i := 180) rfl) rfl), (fun h => absurd h (by decide))⟩
theorem tx_c23 : tx_cok (8, 59, 134, 0) := ⟨by decide, fun _ => (bg_4 (List.mem_of_getElem? (i := 115) rfl) rfl), (fun h => absurd h (by decide))⟩
theorem tx_c24 : tx_cok (8, 60, 65, 0) := ⟨by decide, fun _ => (bg_2 (List.mem_of_getElem? (i := 184) rfl) rfl), (fun h => absurd h (by decide))⟩
theorem tx_c25 : tx_cok (8, 63, 135, 0) := ⟨by decide, fun _ => (bg_4 (List.mem_of_getElem? (i := 119) rfl) rfl), (fun h => absurd h (by decide))⟩
theorem tx_c26 : tx_cok (8, 64, 66, 0) := ⟨by decide, fun _ => (bg_2 (List.mem_of_getElem? (i := 202) rfl) rfl), (fun h => absurd h (by decide))⟩
theorem tx_c27 : tx_cok (8, 67, 136, 0) := ⟨by decide, fun _ => (bg_4 (List.mem_of_getElem? (i := 127) rfl) rfl), (fun h => absurd h (by decide))⟩
theorem tx_c28 : tx_cok (8, 68, 67, 0) := ⟨by decide, fun _ => (bg_2 (List.mem_of_getElem? (i := 210) rfl) rfl), (fun h => absurd h (by decide))⟩
theorem tx_c29 : tx_cok (8, 71, 137, 0) := ⟨by decide, fun _ => (bg_4 (List.mem_of_getElem? (i := 131) rfl) rfl), (fun h => absurd h (by decide))⟩
theorem tx_c30 : tx_cok (8, 72, 68, 0) := ⟨by decide, fun _ => (bg_2 (List.mem_of_getElem? (i := 218) rfl) rfl), (fun h => absurd h (by decide))⟩
theorem tx_c31 : tx_cok (8, 75, 139, 0) := ⟨by decide, fun _ => (bg_4 (List.mem_of_getElem? (i := 135) rfl) rfl), (fun h => absurd h (by decide))⟩
theorem tx_c32 : tx_cok (8, 76, 69, 0) := ⟨by decide, fun _ => (bg_2 (List.mem_of_getElem? (i := 226) rfl) rfl), (fun h => absurd h (by decide))⟩
theorem tx_c33 : tx_cok (8, 79, 141, 0) := ⟨by decide, fun _ => (bg_4 (List.mem_of_getElem? (i := 143) rfl) rfl), (fun h => absurd h (by decide))⟩
theorem tx_c34 : tx_cok (8, 80, 70, 0) := ⟨by decide, fun _ => (bg_3 (List.mem_of_getElem? (i := 9) rfl) rfl), (fun h => absurd h (by decide))⟩
theorem tx_c35 : tx_cok (8, 83, 143, 0) := ⟨by decide, fun _ => (bg_4 (List.mem_of_getElem? (i := 151) rfl) rfl), (fun h => absurd h (by decide))⟩
theorem tx_c36 : tx_cok (8, 84, 71, 0) := ⟨by decide, fun _ => (bg_3 (List.mem_of_getElem? (i := 22) rfl) rfl), (fun h => absurd h (by decide))⟩
theorem tx_c37 : tx_cok (8, 87, 144, 0) := ⟨by decide, fun _ => (bg_4 (List.mem_of_getElem? (i := 159) rfl) rfl), (fun h => absurd h (by decide))⟩
theorem tx_c38 : tx_cok (8, 88, 72, 0) := ⟨by decide, fun _ => (bg_3 (List.mem_of_getElem? (i := 26) rfl) rfl), (fun h => absurd h (by decide))⟩
theorem tx_c39 : tx_cok (8, 91, 146, 0) := ⟨by decide, fun _ => (bg_4 (List.mem_of_getElem? (i := 163) rfl) rfl), (fun h => absurd h (by decide))⟩
theorem tx_c40 : tx_cok (8, 92, 73, 0) := ⟨by decide, fun _ => (bg_3 (List.mem_of_getElem? (i := 52) rfl) rfl), (fun h => absurd h (by decide))⟩
theorem tx_c41 : tx_cok (8, 95, 147, 0) := ⟨by decide, fun _ => (bg_4 (List.mem_of_getElem? (i := 175) rfl) rfl), (fun h => absurd h (by decide))⟩
theorem tx_c42 : tx_cok (8, 96, 74, 0) := ⟨by decide, fun _ => (bg_3 (List.mem_of_getElem? (i := 66) rfl) rfl), (fun h => absurd h (by decide))⟩
theorem tx_c43 : tx_cok (8, 99, 148, 0) := ⟨by decide, fun _ => (bg_4 (List.mem_of_getElem? (i := 179) rfl) rfl), (fun h => absurd h (by decide))⟩
theorem tx_c44 : tx_cok (8, 100, 75, 0) := ⟨by decide, fun _ => (bg_3 (List.mem_of_getElem? (i := 79) rfl) rfl), (fun h => absurd h (by decide))⟩
theorem tx_c45 : tx_cok (8, 104, 149, 0) := ⟨by decide, fun _ => (bg_4 (List.mem_of_getElem? (i := 183) rfl) rfl), (fun h => absurd h (by decide))⟩
theorem tx_c46 : tx_cok (8, 105, 76, 0) := ⟨by decide, fun _ => (bg_3 (List.mem_of_getElem? (i := 92) rfl) rfl), (fun h => absurd h (by decide))⟩
theorem tx_c47 : tx_cok (8, 109, 152, 0) := ⟨by decide, fun _ => (bg_4 (List.mem_of_getElem? (i := 187) rfl) rfl), (fun h => absurd h (by decide))⟩
theorem tx_c48 : tx_cok (8, 110, 77, 0) := ⟨by decide, fun _ => (bg_3 (List.mem_of_getElem? (i := 105) rfl) rfl), (fun h => absurd h (by decide))⟩
theorem tx_c49 : tx_cok (8, 113, 153, 0) := ⟨by decide, fun _ => (bg_4 (List.mem_of_getElem? (i := 197) rfl) rfl), (fun h => absurd h (by decide))⟩
theorem tx_c50 : tx_cok (8, 114, 78, 0) := ⟨by decide, fun _ => (bg_3 (List.mem_of_getElem? (i := 139) rfl) rfl), (fun h => absurd h (by decide))⟩
theorem tx_c51 : tx_cok (8, 117, 154, 0) := ⟨by decide, fun _ => (bg_4 (List.mem_of_getElem? (i := 207) rfl) rfl), (fun h => absurd h (by decide))⟩
theorem tx_c52 : tx_cok (8, 118, 79, 0) := ⟨by decide, fun _ => (bg_3 (List.mem_of_getElem? (i := 144) rfl) rfl), (fun h => absurd h (by decide))⟩
theorem tx_c53 : tx_cok (8, 121, 155, 0) := ⟨by decide, fun _ => (bg_4 (List.mem_of_getElem? (i := 211) rfl) rfl), (fun h => absurd h (by decide))⟩
theorem tx_c54 : tx_cok (8, 122, 80, 0) := ⟨by decide, fun _ => (bg_3 (List.mem_of_getElem? (i := 148) rfl) rfl), (fun h => absurd h (by decide))⟩
theorem tx_c55 : tx_cok (8, 125, 156, 0) := ⟨by decide, fun _ => (bg_4 (List.mem_of_getElem? (i := 215) rfl) rfl), (fun h => absurd h (by decide))⟩
theorem tx_c56 : tx_cok (8, 126, 81, 0) := ⟨by decide, fun _ => (bg_3 (List.mem_of_getElem? (i := 152) rfl) rfl), (fun h => absurd h (by decide))⟩
theorem tx_c57 : tx_cok (8, 130, 157, 0) := ⟨by decide, fun _ => (bg_4 (List.mem_of_getElem? (i := 219) rfl) rfl), (fun h => absurd h (by decide))⟩
theorem tx_c58 : tx_cok (0, 44, 3, 0) := ⟨by decide, fun _ => (bg_2 (List.mem_of_getElem? (i := 196) rfl) rfl), (fun h => absurd h (by decide))⟩
theorem tx_c59 : tx_cok (0, 54, 6, 0) := ⟨by decide, fun _ => (bg_2 (List.mem_of_getElem? (i := 201) rfl) rfl), (fun h => absurd h (by decide))⟩
theorem tx_c60 : tx_cok (1, 28, 82, 1) := ⟨by decide, (fun h => absurd h (by decide)), fun _ => List.mem_of_getElem? (i := 0) rfl⟩
theorem tx_c61 : tx_cok (1, 32, 26, 0) := ⟨by decide, fun _ => (bg_2 (List.mem_of_getElem? (i := 8) rfl) rfl), (fun h => absurd h (by decide))⟩
theorem tx_c62 : tx_cok (1, 37, 14, 0) := ⟨by decide, fun _ => (bg_2 (List.mem_of_getElem? (i := 12) rfl) rfl), (fun h => absurd h (by decide))⟩
theorem tx_c63 : tx_cok (1, 41, 15, 0) := ⟨by decide, fun _ => (bg_2 (List.mem_of_getElem? (i := 20) rfl) rfl), (fun h => absurd h (by decide))⟩
theorem tx_c64 : tx_cok (1, 44, 16, 0) := ⟨by decide, fun _ => (bg_2 (List.mem_of_getElem? (i := 28) rfl) rfl), (fun h => absurd h (by decide))⟩
theorem tx_c65 : tx_cok (1, 48, 12, 0) := ⟨by decide, fun _ => (bg_2 (List.mem_of_getElem? (i := 16) rfl) rfl), (fun h => absurd h (by decide))⟩
theorem tx_c66 : tx_cok (1, 51, 13, 0) := ⟨by decide, fun _ => (bg_2 (List.mem_of_getElem? (i := 24) rfl) rfl), (fun h => absurd h (by decide))⟩
theorem tx_c67 : tx_cok (1, 55, 17, 0) := ⟨by decide, fun _ => (bg_2 (List.mem_of_getElem? (i := 32) rfl) rfl), (fun h => absurd h (by decide))⟩
theorem tx_c68 : tx_cok (1, 59, 18, 0) := ⟨by decide, fun _ => (bg_2 (List.mem_of_getElem? (i := 45) rfl) rfl), (fun h => absurd h (by decide))⟩
theorem tx_c69 : tx_cok (1, 63, 27, 0) := ⟨by decide, fun _ => (bg_2 (List.mem_of_getElem? (i := 66) rfl) rfl), (fun h => absurd h (by decide))⟩
theorem tx_c70 : tx_cok (1, 66, 19, 0) := ⟨by decide, fun _ => (bg_2 (List.mem_of_getElem? (i := 36) rfl) rfl), (fun h => absurd h (by decide))⟩
theorem tx_c71 : tx_cok (1, 69, 20, 0) := ⟨by decide, fun _ => (bg_2 (List.mem_of_getElem? (i := 39) rfl) rfl), (fun h => absurd h (by decide))⟩
theorem tx_c72 : tx_cok (1, 73, 21, 0) := ⟨by decide, fun _ => (bg_2 (List.mem_of_getElem? (i := 42) rfl) rfl), (fun h => absurd h (by decide))⟩
theorem tx_c73 : tx_cok (1, 76, 28, 0) := ⟨by decide, fun _ => (bg_2 (List.mem_of_getElem? (i := 49) rfl) rfl), (fun h => absurd h (by decide))⟩
theorem tx_c74 : tx_cok (1, 80, 29, 0) := ⟨by decide, fun _ => (bg_2 (List.mem_of_getElem? (i := 54) rfl) rfl), (fun h => absurd h (by decide))⟩
theorem tx_c75 : tx_cok (1, 84, 31, 0) := ⟨by decide, fun _ => (bg_2 (List.mem_of_getElem? (i := 58) rfl) rfl), (fun h => absurd h (by decide))⟩
theorem tx_c76 : tx_cok (1, 88, 30, 0) := ⟨by decide, fun _ => (bg_2 (List.mem_of_getElem? (i := 62) rfl) rfl), (fun h => absurd h (by decide))⟩
theorem tx_c77 : tx_cok (2, 24, 0, 1) := ⟨by decide, (fun h => absurd h (by decide)), fun _ => List.mem_of_getElem? (i := 1) rfl⟩
theorem tx_c78 : tx_cok (2, 25, 82, 1) := ⟨by decide, (fun h => absurd h (by decide)), fun _ => List.mem_of_getElem? (i := 2) rfl⟩
theorem tx_c79 : tx_cok (2, 29, 83, 1) := ⟨by decide, (fun h => absurd h (by decide)), fun _ => List.mem_of_getElem? (i := 3) rfl⟩
theorem tx_c80 : tx_cok (3, 47, 82, 1) := ⟨by decide, (fun h => absurd h (by decide)), fun _ => List.mem_of_getElem? (i := 4) rfl⟩
theorem tx_c81 : tx_cok (3, 51, 37, 0) := ⟨by decide, fun _ => (bg_3 (List.mem_of_getElem? (i := 74) rfl) rfl), (fun h => absurd h (by decide))⟩
theorem tx_c82 : tx_cok (3, 55, 36, 0) := ⟨by decide, fun _ => (bg_2 (List.mem_of_getElem? (i := 238) rfl) rfl), (fun h => absurd h (by decide))⟩
theorem tx_c83 : tx_cok (3, 58, 34, 0) := ⟨by decide, fun _ => (bg_3 (List.mem_of_getElem? (i := 7) rfl) rfl), (fun h => absurd h (by decide))⟩
theorem tx_c84 : tx_cok (3, 61, 35, 0) := ⟨by decide, fun _ => (bg_3 (List.mem_of_getElem? (i := 8) rfl) rfl), (fun h => absurd h (by decide))⟩
theorem tx_c85 : tx_cok (4, 22, 82, 1) := ⟨by decide, (fun h => absurd h (by decide)), fun _ => List.mem_of_getElem? (i := 5) rfl⟩
theorem tx_c86 : tx_cok (4, 26, 44, 0) := ⟨by decide, fun _ => (bg_3 (List.mem_of_getElem? (i := 34) rfl) rfl), (fun h => absurd h (by decide))⟩
theorem tx_c87 : tx_cok (4, 30, 158, 0) := ⟨by decide, fun _ => (bg_3 (List.mem_of_getElem? (i := 46) rfl) rfl), (fun h => absurd h (by decide))⟩
theorem tx_c88 : tx_cok (4, 36, 45, 0) := ⟨by decide, fun _ => (bg_3 (List.mem_of_getElem? (i := 60) rfl) rfl), (fun h => absurd h (by decide))⟩
theorem tx_c89 : tx_cok (4, 39, 49, 0) := ⟨by decide, fun _ => (bg_3 (List.mem_of_getElem? (i := 61) rfl) rfl), (fun h => absurd h (by decide))⟩
theorem tx_c90 : tx_cok (5, 23, 52, 0) := ⟨by decide, fun _ => (bg_3 (List.mem_of_getElem? (i := 87) rfl) rfl), (fun h => absurd h (by decide))⟩
theorem tx_c91 : tx_cok (5, 27, 82, 1) := ⟨by decide, (fun h => absurd h (by decide)), fun _ => List.mem_of_getElem? (i := 6) rfl⟩
theorem tx_c92 : tx_cok (6, 9, 9, 1) := ⟨by decide, (fun h => absurd h (by decide)), fun _ => List.mem_of_getElem? (i := 7) rfl⟩
theorem tx_c93 : tx_cok (6, 18, 25, 1) := ⟨by decide, (fun h => absurd h (by decide)), fun _ => List.mem_of_getElem? (i := 8) rfl⟩
theorem tx_c94 : tx_cok (6, 28, 0, 1) := ⟨by decide, (fun h => absurd h (by decide)), fun _ => List.mem_of_getElem? (i := 9) rfl⟩
theorem tx_c95 : tx_cok (6, 35, 22, 0) := ⟨by decide, fun _ => (bg_1 (List.mem_of_getElem? (i := 136) rfl) rfl), (fun h => absurd h (by decide))⟩
theorem tx_c96 : tx_cok (6, 50, 42, 1) := ⟨by decide, (fun h => absurd h (by decide)), fun _ => List.mem_of_getElem? (i := 10) rfl⟩
theorem tx_c97 : tx_cok (6, 57, 50, 1) := ⟨by decide, (fun h => absurd h (by decide)), fun _ => List.mem_of_getElem? (i := 11) rfl⟩
theorem tx_c98 : tx_cok (6, 66, 82, 0) := ⟨by decide, fun _ => (bg_1 (List.mem_of_getElem? (i := 228) rfl) rfl), (fun h => absurd h (by decide))⟩
theorem tx_c99 : tx_cok (6, 70, 10, 0) := ⟨by decide, fun _ => (bg_1 (List.mem_of_getElem? (i := 231) rfl) rfl), (fun h => absurd h (by decide))⟩
theorem tx_c100 : tx_cok (6, 78, 11, 0) := ⟨by decide, fun _ => (bg_2 (List.mem_of_getElem? (i := 4) rfl) rfl), (fun h => absurd h (by decide))⟩
theorem tx_c101 : tx_cok (6, 82, 84, 0) := ⟨by decide, fun _ => (bg_2 (List.mem_of_getElem? (i := 70) rfl) rfl), (fun h => absurd h (by decide))⟩
theorem tx_c102 : tx_cok (6, 85, 85, 0) := ⟨by decide, fun _ => (bg_2 (List.mem_of_getElem? (i := 82) rfl) rfl), (fun h => absurd h (by decide))⟩
theorem tx_c103 : tx_cok (6, 88, 32, 0) := ⟨by decide, fun _ => (bg_2 (List.mem_of_getElem? (i := 86) rfl) rfl), (fun h => absurd h (by decide))⟩
theorem tx_c104 : tx_cok (6, 92, 33, 0) := ⟨by decide, fun _ => (bg_2 (List.mem_of_getElem? (i := 90) rfl) rfl), (fun h => absurd h (by decide))⟩
theorem tx_c105 : tx_cok (6, 95, 86, 0) := ⟨by decide, fun _ => (bg_2 (List.mem_of_getElem? (i := 98) rfl) rfl), (fun h => absurd h (by decide))⟩
theorem tx_c106 : tx_cok (6, 98, 34, 0) := ⟨by decide, fun _ => (bg_2 (List.mem_of_getElem? (i := 102) rfl) rfl), (fun h => absurd h (by decide))⟩
theorem tx_c107 : tx_cok (6, 101, 35, 0) := ⟨by decide, fun _ => (bg_2 (List.mem_of_getElem? (i := 106) rfl) rfl), (fun h => absurd h (by decide))⟩
theorem tx_c108 : tx_cok (6, 104, 36, 0) := ⟨by decide, fun _ => (bg_2 (List.mem_of_getElem? (i := 110) rfl) rfl), (fun h => absurd h (by decide))⟩
theorem tx_c109 : tx_cok (6, 107, 2, 0) := ⟨by decide, fun _ => (bg_2 (List.mem_of_getElem? (i := 114) rfl) rfl), (fun h => absurd h (by decide))⟩
theorem tx_c110 : tx_cok (6, 122, 3, 0) := ⟨by decide, fun _ => (bg_2 (List.mem_of_getElem? (i := 122) rfl) rfl), (fun h => absurd h (by decide))⟩
theorem tx_c111 : tx_cok (6, 139, 90, 0) := ⟨by decide, fun _ => (bg_2 (List.mem_of_getElem? (i := 126) rfl) rfl), (fun h => absurd h (by decide))⟩
theorem tx_c112 : tx_cok (6, 149, 87, 0) := ⟨by decide, fun _ => (bg_2 (List.mem_of_getElem? (i := 134) rfl) rfl), (fun h => absurd h (by decide))⟩
theorem tx_c113 : tx_cok (6, 156, 23, 0) := ⟨by decide, fun _ => (bg_2 (List.mem_of_getElem? (i := 152) rfl) rfl), (fun h => absurd h (by decide))⟩
theorem tx_c114 : tx_cok (6, 160, 89, 0) := ⟨by decide, fun _ => (bg_2 (List.mem_of_getElem? (i := 130) rfl) rfl), (fun h => absurd h (by decide))⟩
theorem tx_c115 : tx_cok (6, 163, 5, 0) := ⟨by decide, fun _ => (bg_2 (List.mem_of_getElem? (i := 167) rfl) rfl), (fun h => absurd h (by decide))⟩
theorem tx_c116 : tx_cok (6, 166, 6, 0) := ⟨by decide, fun _ => (bg_2 (List.mem_of_getElem? (i := 175) rfl) rfl), (fun h => absurd h (by decide))⟩
theorem tx_c117 : tx_cok (6, 169, 88, 0) := ⟨by decide, fun _ => (bg_2 (List.mem_of_getElem? (i := 188) rfl) rfl), (fun h => absurd h (by decide))⟩
theorem tx_c118 : tx_cok (6, 172, 4, 0) := ⟨by decide, fun _ => (bg_2 (List.mem_of_getElem? (i := 192) rfl) rfl), (fun h => absurd h (by decide))⟩
theorem tx_c119 : tx_cok (6, 175, 7, 0) := ⟨by decide, fun _ => (bg_2 (List.mem_of_getElem? (i := 197) rfl) rfl), (fun h => absurd h (by decide))⟩
theorem tx_c120 : tx_cok (6, 179, 8, 0) := ⟨by decide, fun _ => (bg_2 (List.mem_of_getElem? (i := 206) rfl) rfl), (fun h => absurd h (by decide))⟩
theorem tx_c121 : tx_cok (6, 182, 24, 0) := ⟨by decide, fun _ => (bg_2 (List.mem_of_getElem? (i := 214) rfl) rfl), (fun h => absurd h (by decide))⟩
theorem tx_c122 : tx_cok (6, 186, 91, 0) := ⟨by decide, fun _ => (bg_2 (List.mem_of_getElem? (i := 222) rfl) rfl), (fun h => absurd h (by decide))⟩
theorem tx_c123 : tx_cok (6, 189, 92, 0) := ⟨by decide, fun _ => (bg_2 (List.mem_of_getElem? (i := 230) rfl) rfl), (fun h => absurd h (by decide))⟩
theorem tx_c124 : tx_cok (6, 192, 39, 0) := ⟨by decide, fun _ => (bg_2 (List.mem_of_getElem? (i := 234) rfl) rfl), (fun h => absurd h (by decide))⟩
theorem tx_c125 : tx_cok (6, 195, 41, 0) := ⟨by decide, fun _ => (bg_3 (List.mem_of_getElem? (i := 13) rfl) rfl), (fun h => absurd h (by decide))⟩
theorem tx_c126 : tx_cok (6, 198, 43, 0) := ⟨by decide, fun _ => (bg_3 (List.mem_of_getElem? (i := 17) rfl) rfl), (fun h => absurd h (by decide))⟩
theorem tx_c127 : tx_cok (6, 203, 45, 0) := ⟨by decide, fun _ => (bg_3 (List.mem_of_getElem? (i := 30) rfl) rfl), (fun h => absurd h (by decide))⟩
theorem tx_c128 : tx_cok (6, 206, 46, 0) := ⟨by decide, fun _ => (bg_3 (List.mem_of_getElem? (i := 38) rfl) rfl), (fun h => absurd h (by decide))⟩
theorem tx_c129 : tx_cok (6, 209, 47, 0) := ⟨by decide, fun _ => (bg_3 (List.mem_of_getElem? (i := 42) rfl) rfl), (fun h => absurd h (by decide))⟩
theorem tx_c130 : tx_cok (6, 212, 48, 0) := ⟨by decide, fun _ => (bg_3 (List.mem_of_getElem? (i := 56) rfl) rfl), (fun h => absurd h (by decide))⟩
theorem tx_c131 : tx_cok (6, 218, 38, 0) := ⟨by decide, fun _ => (bg_3 (List.mem_of_getElem? (i := 70) rfl) rfl), (fun h => absurd h (by decide))⟩
theorem tx_c132 : tx_cok (6, 227, 37, 0) := ⟨by decide, fun _ => (bg_3 (List.mem_of_getElem? (i := 78) rfl) rfl), (fun h => absurd h (by decide))⟩
theorem tx_c133 : tx_cok (6, 230, 51, 0) := ⟨by decide, fun _ => (bg_3 (List.mem_of_getElem? (i := 83) rfl) rfl), (fun h => absurd h (by decide))⟩
theorem tx_c134 : tx_cok (6, 240, 94, 0) := ⟨by decide, fun _ => (bg_3 (List.mem_of_getElem? (i := 96) rfl) rfl), (fun h => absurd h (by decide))⟩
theorem tx_c135 : tx_cok (6, 243, 95, 0) := ⟨by decide, fun _ => (bg_3 (List.mem_of_getElem? (i := 99) rfl) rfl), (fun h => absurd h (by decide))⟩
theorem tx_c136 : tx_cok (6, 246, 96, 0) := ⟨by decide, fun _ => (bg_3 (List.mem_of_getElem? (i := 102) rfl) rfl), (fun h => absurd h (by decide))⟩
theorem tx_c137 : tx_cok (6, 250, 97, 0) := ⟨by decide, fun _ => (bg_3 (List.mem_of_getElem? (i := 110) rfl) rfl), (fun h => absurd h (by decide))⟩
theorem tx_c138 : tx_cok (6, 253, 98, 0) := ⟨by decide, fun _ => (bg_3 (List.mem_of_getElem? (i := 114) rfl) rfl), (fun h => absurd h (by decide))⟩
theorem tx_c139 : tx_cok (6, 256, 99, 0) := ⟨by decide, fun _ => (bg_3 (List.mem_of_getElem? (i := 119) rfl) rfl), (fun h => absurd h (by decide))⟩
theorem tx_c140 : tx_cok (6, 259, 100, 0) := ⟨by decide, fun _ => (bg_3 (List.mem_of_getElem? (i := 124) rfl) rfl), (fun h => absurd h (by decide))⟩
theorem tx_c141 : tx_cok (6, 262, 101, 0) := ⟨by decide, fun _ => (bg_3 (List.mem_of_getElem? (i := 129) rfl) rfl), (fun h => absurd h (by decide))⟩
theorem tx_c142 : tx_cok (6, 265, 102, 0) := ⟨by decide, fun _ => (bg_3 (List.mem_of_getElem? (i := 134) rfl) rfl), (fun h => absurd h (by decide))⟩
theorem tx_c143 : tx_cok (6, 268, 83, 0) := ⟨by decide, fun _ => (bg_3 (List.mem_of_getElem? (i := 143) rfl) rfl), (fun h => absurd h (by decide))⟩
theorem tx_c144 : tx_cok (6, 281, 1, 0) := ⟨by decide, fun _ => (bg_2 (List.mem_of_getElem? (i := 74) rfl) rfl), (fun h => absurd h (by decide))⟩
theorem tx_c145 : tx_cok (6, 287, 93, 0) := ⟨by decide, fun _ => (bg_2 (List.mem_of_getElem? (i := 239) rfl) rfl), (fun h => absurd h (by decide))⟩
theorem tx_c146 : tx_cok (6, 290, 40, 0) := ⟨by decide, fun _ => (bg_3 (List.mem_of_getElem? (i := 3) rfl) rfl), (fun h => absurd h (by decide))⟩
theorem tx_c147 : tx_cok (7, 59, 113, 0) := ⟨by decide, fun _ => (bg_3 (List.mem_of_getElem? (i := 162) rfl) rfl), (fun h => absurd h (by decide))⟩
theorem tx_c148 : tx_cok (7, 62, 117, 0) := ⟨by decide, fun _ => (bg_3 (List.mem_of_getElem? (i := 166) rfl) rfl), (fun h => absurd h (by decide))⟩
theorem tx_c149 : tx_cok (7, 69, 104, 0) := ⟨by decide, fun _ => (bg_4 (List.mem_of_getElem? (i := 16) rfl) rfl), (fun h => absurd h (by decide))⟩
theorem tx_c150 : tx_cok (7, 79, 108, 0) := ⟨by decide, fun _ => (bg_4 (List.mem_of_getElem? (i := 31) rfl) rfl), (fun h => absurd h (by decide))⟩
theorem tx_c151 : tx_cok (7, 95, 110, 0) := ⟨by decide, fun _ => (bg_4 (List.mem_of_getElem? (i := 35) rfl) rfl), (fun h => absurd h (by decide))⟩
theorem tx_c152 : tx_cok (7, 99, 109, 0) := ⟨by decide, fun _ => (bg_4 (List.mem_of_getElem? (i := 27) rfl) rfl), (fun h => absurd h (by decide))⟩
theorem tx_c153 : tx_cok (7, 102, 111, 0) := ⟨by decide, fun _ => (bg_4 (List.mem_of_getElem? (i := 43) rfl) rfl), (fun h => absurd h (by decide))⟩
theorem tx_c154 : tx_cok (7, 110, 112, 0) := ⟨by decide, fun _ => (bg_4 (List.mem_of_getElem? (i := 51) rfl) rfl), (fun h => absurd h (by decide))⟩
theorem tx_c155 : tx_cok (7, 114, 114, 0) := ⟨by decide, fun _ => (bg_4 (List.mem_of_getElem? (i := 39) rfl) rfl), (fun h => absurd h (by decide))⟩
theorem tx_c156 : tx_cok (7, 117, 115, 0) := ⟨by decide, fun _ => (bg_4 (List.mem_of_getElem? (i := 47) rfl) rfl), (fun h => absurd h (by decide))⟩
theorem tx_c157 : tx_cok (7, 127, 118, 0) := ⟨by decide, fun _ => (bg_4 (List.mem_of_getElem? (i := 59) rfl) rfl), (fun h => absurd h (by decide))⟩
theorem tx_c158 : tx_cok (7, 131, 119, 0) := ⟨by decide, fun _ => (bg_4 (List.mem_of_getElem? (i := 67) rfl) rfl), (fun h => absurd h (by decide))⟩
theorem tx_c159 : tx_cok (7, 134, 120, 0) := ⟨by decide, fun _ => (bg_4 (List.mem_of_getElem? (i := 83) rfl) rfl), (fun h => absurd h (by decide))⟩
theorem tx_c160 : tx_cok (7, 137, 124, 0) := ⟨by decide, fun _ => (bg_4 (List.mem_of_getElem? (i := 79) rfl) rfl), (fun h => absurd h (by decide))⟩
theorem tx_c161 : tx_cok (7, 141, 126, 0) := ⟨by decide, fun _ => (bg_4 (List.mem_of_getElem? (i := 75) rfl) rfl), (fun h => absurd h (by decide))⟩
theorem tx_c162 : tx_cok (7, 144, 125, 0) := ⟨by decide, fun _ => (bg_4 (List.mem_of_getElem? (i := 87) rfl) rfl), (fun h => absurd h (by decide))⟩
theorem tx_c163 : tx_cok (7, 147, 129, 0) := ⟨by decide, fun _ => (bg_4 (List.mem_of_getElem? (i := 99) rfl) rfl), (fun h => absurd h (by decide))⟩
theorem tx_c164 : tx_cok (7, 150, 132, 0) := ⟨by decide, fun _ => (bg_4 (List.mem_of_getElem? (i := 111) rfl) rfl), (fun h => absurd h (by decide))⟩
theorem tx_c165 : tx_cok (7, 153, 121, 0) := ⟨by decide, fun _ => (bg_4 (List.mem_of_getElem? (i := 123) rfl) rfl), (fun h => absurd h (by decide))⟩
theorem tx_c166 : tx_cok (7, 156, 138, 0) := ⟨by decide, fun _ => (bg_4 (List.mem_of_getElem? (i := 139) rfl) rfl), (fun h => absurd h (by decide))⟩
theorem tx_c167 : tx_cok (7, 159, 140, 0) := ⟨by decide, fun _ => (bg_4 (List.mem_of_getElem? (i := 147) rfl) rfl), (fun h => absurd h (by decide))⟩
theorem tx_c168 : tx_cok (7, 162, 142, 0) := ⟨by decide, fun _ => (bg_4 (List.mem_of_getElem? (i := 155) rfl) rfl), (fun h => absurd h (by decide))⟩
theorem tx_c169 : tx_cok (7, 166, 145, 0) := ⟨by decide, fun _ => (bg_4 (List.mem_of_getElem? (i := 168) rfl) rfl), (fun h => absurd h (by decide))⟩
theorem tx_c170 : tx_cok (7, 169, 105, 0) := ⟨by decide, fun _ => (bg_4 (List.mem_of_getElem? (i := 172) rfl) rfl), (fun h => absurd h (by decide))⟩
theorem tx_c171 : tx_cok (7, 172, 150, 0) := ⟨by decide, fun _ => (bg_4 (List.mem_of_getElem? (i := 191) rfl) rfl), (fun h => absurd h (by decide))⟩
theorem tx_c172 : tx_cok (7, 175, 151, 0) := ⟨by decide, fun _ => (bg_4 (List.mem_of_getElem? (i := 194) rfl) rfl), (fun h => absurd h (by decide))⟩
set_option maxRecDepth 20000 in
theorem tx_C_ok : ∀ q ∈ tx_C, tx_cok q := List.forall_mem_cons.mpr ⟨tx_c0, List.forall_mem_cons.mpr ⟨tx_c1, List.forall_mem_cons.mpr ⟨tx_c2, List.forall_mem_cons.mpr ⟨tx_c3, List.forall_mem_cons.mpr ⟨tx_c4, List.forall_mem_cons.mpr ⟨tx_c5, List.forall_mem_cons.mpr ⟨tx_c6, List.forall_mem_cons.mpr ⟨tx_c7, List.forall_mem_cons.mpr ⟨tx_c8, List.forall_mem_cons.mpr ⟨tx_c9, List.forall_mem_cons.mpr ⟨tx_c10, List.forall_mem_cons.mpr ⟨tx_c11, List.forall_mem_cons.mpr ⟨tx_c12, List.forall_mem_cons.mpr ⟨tx_c13, List.forall_mem_cons.mpr ⟨tx_c14, List.forall_mem_cons.mpr ⟨tx_c15, List.forall_mem_cons.mpr ⟨tx_c16, List.forall_mem_cons.mpr ⟨tx_c17, List.forall_mem_cons.mpr ⟨tx_c18, List.forall_mem_cons.mpr ⟨tx_c19, List.forall_mem_cons.mpr ⟨tx_c20, List.forall_mem_cons.mpr ⟨tx_c21, List.forall_mem_cons.mpr ⟨tx_c22, List.forall_mem_cons.mpr ⟨tx_c23, List.forall_mem_cons.mpr ⟨tx_c24, List.forall_mem_cons.mpr ⟨tx_c25, List.forall_mem_cons.mpr ⟨tx_c26, List.forall_mem_cons.mpr ⟨tx_c27, List.forall_mem_cons.mpr ⟨tx_c28, List.forall_mem_cons.mpr ⟨tx_c29, List.forall_mem_cons.mpr ⟨tx_c30, List.forall_mem_cons.mpr ⟨tx_c31, List.forall_mem_cons.mpr ⟨tx_c32, List.forall_mem_cons.mpr ⟨tx_c33, List.forall_mem_cons.mpr ⟨tx_c34, List.forall_mem_cons.mpr ⟨tx_c35, List.forall_mem_cons.mpr ⟨tx_c36, List.forall_mem_cons.mpr ⟨tx_c37, List.forall_mem_cons.mpr ⟨tx_c38, List.forall_mem_cons.mpr ⟨tx_c39, List.forall_mem_cons.mpr ⟨tx_c40, List.forall_mem_cons.mpr ⟨tx_c41, List.forall_mem_cons.mpr ⟨tx_c42, List.forall_mem_cons.mpr ⟨tx_c43, List.forall_mem_cons.mpr ⟨tx_c44, List.forall_mem_cons.mpr ⟨tx_c45, List.forall_mem_cons.mpr ⟨tx_c46, List.forall_mem_cons.mpr ⟨tx_c47, List.forall_mem_cons.mpr ⟨tx_c48, List.forall_mem_cons.mpr ⟨tx_c49, List.forall_mem_cons.mpr ⟨tx_c50, List.forall_mem_cons.mpr ⟨tx_c51, List.forall_mem_cons.mpr ⟨tx_c52, List.forall_mem_cons.mpr ⟨tx_c53, List.forall_mem_cons.mpr ⟨tx_c54, List.forall_mem_cons.mpr ⟨tx_c55, List.forall_mem_cons.mpr ⟨tx_c56, List.forall_mem_cons.mpr ⟨tx_c57, List.forall_mem_cons.mpr ⟨tx_c58, List.forall_mem_cons.mpr ⟨tx_c59, List.forall_mem_cons.mpr ⟨tx_c60, List.forall_mem_cons.mpr ⟨tx_c61, List.forall_mem_cons.mpr ⟨tx_c62, List.forall_mem_cons.mpr ⟨tx_c63, List.forall_mem_cons.mpr ⟨tx_c64, List.forall_mem_cons.mpr ⟨tx_c65, List.forall_mem_cons.mpr ⟨tx_c66, List.forall_mem_cons.mpr ⟨tx_c67, List.forall_mem_cons.mpr ⟨tx_c68, List.forall_mem_cons.mpr ⟨tx_c69, List.forall_mem_cons.mpr ⟨tx_c70, List.forall_mem_cons.mpr ⟨tx_c71, List.forall_mem_cons.mpr ⟨tx_c72, List.forall_mem_cons.mpr ⟨tx_c73, List.forall_mem_cons.mpr ⟨tx_c74, List.forall_mem_cons.mpr ⟨tx_c75, List.forall_mem_cons.mpr ⟨tx_c76, List.forall_mem_cons.mpr ⟨tx_c77, List.forall_mem_cons.mpr ⟨tx_c78, List.forall_mem_cons.mpr ⟨tx_c79, List.forall_mem_cons.mpr ⟨tx_c80, List.forall_mem_cons.mpr ⟨tx_c81, List.forall_mem_cons.mpr ⟨tx_c82, List.forall_mem_cons.mpr ⟨tx_c83, List.forall_mem_cons.mpr ⟨tx_c84, List.forall_mem_cons.mpr ⟨tx_c85, List.forall_mem_cons.mpr ⟨tx_c86, List.forall_mem_cons.mpr ⟨tx_c87, List.forall_mem_cons.mpr ⟨tx_c88, List.forall_mem_cons.mpr ⟨tx_c89, List.forall_mem_cons.mpr ⟨tx_c90, List.forall_mem_cons.mpr ⟨tx_c91, List.forall_mem_cons.mpr ⟨tx_c92, List.forall_mem_cons.mpr ⟨tx_c93, List.forall_mem_cons.mpr ⟨tx_c94, List.forall_mem_cons.mpr ⟨tx_c95, List.forall_mem_cons.mpr ⟨tx_c96, List.forall_mem_cons.mpr ⟨tx_c97, List.forall_mem_cons.mpr ⟨tx_c98, List.forall_mem_cons.mpr ⟨tx_c99, List.forall_mem_cons.mpr ⟨tx_c100, List.forall_mem_cons.mpr ⟨tx_c101, List.forall_mem_cons.mpr ⟨tx_c102, List.forall_mem_cons.mpr ⟨tx_c103, List.forall_mem_cons.mpr ⟨tx_c104, List.forall_mem_cons.mpr ⟨tx_c105, List.forall_mem_cons.mpr ⟨tx_c106, List.forall_mem_cons.mpr ⟨tx_c107, List.forall_mem_cons.mpr ⟨tx_c108, List.forall_mem_cons.mpr ⟨tx_c109, List.forall_mem_cons.mpr ⟨tx_c110, List.forall_mem_cons.mpr ⟨tx_c111, List.forall_mem_cons.mpr ⟨tx_c112, List.forall_mem_cons.mpr ⟨tx_c113, List.forall_mem_cons.mpr ⟨tx_c114, List.forall_mem_cons.mpr ⟨tx_c115, List.forall_mem_cons.mpr ⟨tx_c116, List.forall_mem_cons.mpr ⟨tx_c117, List.forall_mem_cons.mpr ⟨tx_c118, List.forall_mem_cons.mpr ⟨tx_c119, List.forall_mem_cons.mpr ⟨tx_c120, List.forall_mem_cons.mpr ⟨tx_c121, List.forall_mem_cons.mpr ⟨tx_c122, List.forall_mem_cons.mpr ⟨tx_c123, List.forall_mem_cons.mpr ⟨tx_c124, List.forall_mem_cons.mpr ⟨tx_c125, List.forall_mem_cons.mpr ⟨tx_c126, List.forall_mem_cons.mpr ⟨tx_c127, List.forall_mem_cons.mpr ⟨tx_c128, List.forall_mem_cons.mpr ⟨tx_c129, List.forall_mem_cons.mpr ⟨tx_c130, List.forall_mem_cons.mpr ⟨tx_c131, List.forall_mem_cons.mpr ⟨tx_c132, List.forall_mem_cons.mpr ⟨tx_c133, List.forall_mem_cons.mpr ⟨tx_c134, List.forall_mem_cons.mpr ⟨tx_c135, List.forall_mem_cons.mpr ⟨tx_c136, List.forall_mem_cons.mpr ⟨tx_c137, List.forall_mem_cons.mpr ⟨tx_c138, List.forall_mem_cons.mpr ⟨tx_c139, List.forall_mem_cons.mpr ⟨tx_c140, List.forall_mem_cons.mpr ⟨tx_c141, List.forall_mem_cons.mpr ⟨tx_c142, List.forall_mem_cons.mpr ⟨tx_c143, List.forall_mem_cons.mpr ⟨tx_c144, List.forall_mem_cons.mpr ⟨tx_c145, List.forall_mem_cons.mpr ⟨tx_c146, List.forall_mem_cons.mpr ⟨tx_c147, List.forall_mem_cons.mpr ⟨tx_c148, List.forall_mem_cons.mpr ⟨tx_c149, List.forall_mem_cons.mpr ⟨tx_c150, List.forall_mem_cons.mpr ⟨tx_c151, List.forall_mem_cons.mpr ⟨tx_c152, List.forall_mem_cons.mpr ⟨tx_c153, List.forall_mem_cons.mpr ⟨tx_c154, List.forall_mem_cons.mpr ⟨tx_c155, List.forall_mem_cons.mpr ⟨tx_c156, List.forall_mem_cons.mpr ⟨tx_c157, List.forall_mem_cons.mpr ⟨tx_c158, List.forall_mem_cons.mpr ⟨tx_c159, List.forall_mem_cons.mpr ⟨tx_c160, List.forall_mem_cons.mpr ⟨tx_c161, List.forall_mem_cons.mpr ⟨tx_c162, List.forall_mem_cons.mpr ⟨tx_c163, List.forall_mem_cons.mpr ⟨tx_c164, List.forall_mem_cons.mpr ⟨tx_c165, List.forall_mem_cons.mpr ⟨tx_c166, List.forall_mem_cons.mpr ⟨tx_c167, List.forall_mem_cons.mpr ⟨tx_c168, List.forall_mem_cons.mpr ⟨tx_c169, List.forall_mem_cons.mpr ⟨tx_c170, List.forall_mem_cons.mpr ⟨tx_c171, List.forall_mem_cons.mpr ⟨tx_c172, fun _ h => absurd h List.not_mem_nil⟩⟩⟩⟩⟩⟩⟩⟩⟩⟩⟩⟩⟩⟩⟩⟩⟩⟩⟩⟩⟩⟩⟩⟩⟩⟩⟩⟩⟩⟩⟩⟩⟩⟩⟩⟩⟩⟩⟩⟩⟩⟩⟩⟩⟩⟩⟩⟩⟩⟩⟩⟩⟩⟩⟩⟩⟩⟩⟩⟩⟩⟩⟩⟩⟩⟩⟩⟩⟩⟩⟩⟩⟩⟩⟩⟩⟩⟩⟩⟩⟩⟩⟩⟩⟩⟩⟩⟩⟩⟩⟩⟩⟩⟩⟩⟩⟩⟩⟩⟩⟩⟩⟩⟩⟩⟩⟩⟩⟩⟩⟩⟩⟩⟩⟩⟩⟩⟩⟩⟩⟩⟩⟩⟩⟩⟩⟩⟩⟩⟩⟩⟩⟩⟩⟩⟩⟩⟩⟩⟩⟩⟩⟩⟩⟩⟩⟩⟩⟩⟩⟩⟩⟩⟩⟩⟩⟩⟩⟩⟩⟩⟩⟩⟩⟩⟩⟩⟩⟩⟩⟩⟩⟩
def tx_O : List (Nat × Nat) := [(6, 1), (1, 3), (3, 3), (0, 3), (2, 3), (4, 3), (5, 1), (7, 1)]
theorem tx_O_ok : ∀ q ∈ tx_O, Cond.methodLink (tx_R q.1) q.2 objectInit ∈ tx_B := List.forall_mem_cons.mpr ⟨(bg_1 (List.mem_of_getElem? (i := 16) rfl) rfl), List.forall_mem_cons.mpr ⟨(bg_1 (List.mem_of_getElem? (i := 24) rfl) rfl), List.forall_mem_cons.mpr ⟨(bg_1 (List.mem_of_getElem? (i := 48) rfl) rfl), List.forall_mem_cons.mpr ⟨(bg_1 (List.mem_of_getElem? (i := 92) rfl) rfl), List.forall_mem_cons.mpr ⟨(bg_1 (List.mem_of_getElem? (i := 139) rfl) rfl), List.forall_mem_cons.mpr ⟨(bg_1 (List.mem_of_getElem? (i := 159) rfl) rfl), List.forall_mem_cons.mpr ⟨(bg_1 (List.mem_of_getElem? (i := 177) rfl) rfl), List.forall_mem_cons.mpr ⟨(bg_3 (List.mem_of_getElem? (i := 161) rfl) rfl), fun _ h => absurd h List.not_mem_nil⟩⟩⟩⟩⟩⟩⟩⟩
def tx_mn : Nat → MethodName := fun k => match k with
  | 0 => Lib.Math.abs.name
  | 1 => Lib.Math.max.name
  | _ => Lib.Math.min.name
def tx_A : List (Nat × Nat × Nat) := [(6, 221, 1), (6, 284, 0), (2, 33, 2), (0, 48, 2), (4, 43, 1)]
theorem tx_A_ok : ∀ q ∈ tx_A, Cond.methodLink (tx_R q.1) q.2.1 (tx_mn q.2.2) ∈ tx_B := List.forall_mem_cons.mpr ⟨(bg_2 (List.mem_of_getElem? (i := 141) rfl) rfl), List.forall_mem_cons.mpr ⟨(bg_2 (List.mem_of_getElem? (i := 138) rfl) rfl), List.forall_mem_cons.mpr ⟨(bg_2 (List.mem_of_getElem? (i := 160) rfl) rfl), List.forall_mem_cons.mpr ⟨(bg_2 (List.mem_of_getElem? (i := 179) rfl) rfl), List.forall_mem_cons.mpr ⟨(bg_3 (List.mem_of_getElem? (i := 65) rfl) rfl), fun _ h => absurd h List.not_mem_nil⟩⟩⟩⟩⟩
def tx_I : List (Nat × Nat × Int32) := [(9, 265, 1431655765), (9, 266, 858993459), (9, 267, 252645135), (7, 165, 1000000), (6, 249, -1000000), (7, 178, -1000000)]
theorem tx_I_ok : ∀ q ∈ tx_I, Cond.constant (tx_R q.1) q.2.1 q.2.2 ∈ tx_B := List.forall_mem_cons.mpr ⟨(bg_3 (List.mem_of_getElem? (i := 49) rfl) rfl), List.forall_mem_cons.mpr ⟨(bg_3 (List.mem_of_getElem? (i := 50) rfl) rfl), List.forall_mem_cons.mpr ⟨(bg_3 (List.mem_of_getElem? (i := 51) rfl) rfl), List.forall_mem_cons.mpr ⟨(bg_4 (List.mem_of_getElem? (i := 167) rfl) rfl), List.forall_mem_cons.mpr ⟨(bg_3 (List.mem_of_getElem? (i := 109) rfl) rfl), List.forall_mem_cons.mpr ⟨(bg_4 (List.mem_of_getElem? (i := 201) rfl) rfl), fun _ h => absurd h List.not_mem_nil⟩⟩⟩⟩⟩⟩
def tx_J : List (Nat × Nat × Int64) := [(6, 293, 10), (6, 295, 100), (6, 297, 1000), (6, 299, 10000), (6, 301, 100000), (7, 183, 11), (7, 185, 101), (7, 187, 1011), (7, 189, 10101), (7, 191, 100001)]
theorem tx_J_ok : ∀ q ∈ tx_J, Cond.constantLong (tx_R q.1) q.2.1 q.2.2 ∈ tx_B := List.forall_mem_cons.mpr ⟨(bg_3 (List.mem_of_getElem? (i := 118) rfl) rfl), List.forall_mem_cons.mpr ⟨(bg_3 (List.mem_of_getElem? (i := 123) rfl) rfl), List.forall_mem_cons.mpr ⟨(bg_3 (List.mem_of_getElem? (i := 128) rfl) rfl), List.forall_mem_cons.mpr ⟨(bg_3 (List.mem_of_getElem? (i := 133) rfl) rfl), List.forall_mem_cons.mpr ⟨(bg_3 (List.mem_of_getElem? (i := 138) rfl) rfl), List.forall_mem_cons.mpr ⟨(bg_4 (List.mem_of_getElem? (i := 202) rfl) rfl), List.forall_mem_cons.mpr ⟨(bg_4 (List.mem_of_getElem? (i := 203) rfl) rfl), List.forall_mem_cons.mpr ⟨(bg_4 (List.mem_of_getElem? (i := 204) rfl) rfl), List.forall_mem_cons.mpr ⟨(bg_4 (List.mem_of_getElem? (i := 205) rfl) rfl), List.forall_mem_cons.mpr ⟨(bg_4 (List.mem_of_getElem? (i := 206) rfl) rfl), fun _ h => absurd h List.not_mem_nil⟩⟩⟩⟩⟩⟩⟩⟩⟩⟩
def tx_K : List (Nat × Nat × Nat) := [(8, 7, 6), (8, 10, 7), (6, 7, 1), (6, 16, 3), (6, 26, 0), (6, 33, 2), (6, 48, 4), (6, 55, 5), (2, 18, 0)]
theorem tx_K_ok : ∀ q ∈ tx_K, Cond.classLink (tx_R q.1) q.2.1 (tx_R q.2.2) ∈ tx_B := List.forall_mem_cons.mpr ⟨(bg_1 (List.mem_of_getElem? (i := 11) rfl) rfl), List.forall_mem_cons.mpr ⟨(bg_3 (List.mem_of_getElem? (i := 156) rfl) rfl), List.forall_mem_cons.mpr ⟨(bg_1 (List.mem_of_getElem? (i := 19) rfl) rfl), List.forall_mem_cons.mpr ⟨(bg_1 (List.mem_of_getElem? (i := 43) rfl) rfl), List.forall_mem_cons.mpr ⟨(bg_1 (List.mem_of_getElem? (i := 87) rfl) rfl), List.forall_mem_cons.mpr ⟨(bg_1 (List.mem_of_getElem? (i := 134) rfl) rfl), List.forall_mem_cons.mpr ⟨(bg_1 (List.mem_of_getElem? (i := 154) rfl) rfl), List.forall_mem_cons.mpr ⟨(bg_1 (List.mem_of_getElem? (i := 172) rfl) rfl), List.forall_mem_cons.mpr ⟨(bg_1 (List.mem_of_getElem? (i := 140) rfl) rfl), fun _ h => absurd h List.not_mem_nil⟩⟩⟩⟩⟩⟩⟩⟩⟩
theorem tx_inst : ∀ k, k < 8 → Cond.instantiable (tx_R k) (tx_N k) ∈ tx_B ∧ Cond.initialized (tx_R k) ∈ tx_B := by
  intro k hk
  match k, hk with
  | 0, _ => exact ⟨(bg_1 (List.mem_of_getElem? (i := 88) rfl) rfl), (bg_1 (List.mem_of_getElem? (i := 4) rfl) rfl)⟩
  | 1, _ => exact ⟨(bg_1 (List.mem_of_getElem? (i := 20) rfl) rfl), (bg_1 (List.mem_of_getElem? (i := 2) rfl) rfl)⟩
  | 2, _ => exact ⟨(bg_1 (List.mem_of_getElem? (i := 135) rfl) rfl), (bg_1 (List.mem_of_getElem? (i := 5) rfl) rfl)⟩
  | 3, _ => exact ⟨(bg_1 (List.mem_of_getElem? (i := 44) rfl) rfl), (bg_1 (List.mem_of_getElem? (i := 3) rfl) rfl)⟩
  | 4, _ => exact ⟨(bg_1 (List.mem_of_getElem? (i := 155) rfl) rfl), (bg_1 (List.mem_of_getElem? (i := 6) rfl) rfl)⟩
  | 5, _ => exact ⟨(bg_1 (List.mem_of_getElem? (i := 173) rfl) rfl), (bg_1 (List.mem_of_getElem? (i := 7) rfl) rfl)⟩
  | 6, _ => exact ⟨(bg_1 (List.mem_of_getElem? (i := 12) rfl) rfl), (bg_1 (List.mem_of_getElem? (i := 1) rfl) rfl)⟩
  | 7, _ => exact ⟨(bg_3 (List.mem_of_getElem? (i := 157) rfl) rfl), (bg_1 (List.mem_of_getElem? (i := 8) rfl) rfl)⟩
  | n + 8, h => exact absurd h (by omega)
theorem tx_w_ai : Cond.arrayClass .int ∈ tx_B := (bg_1 (List.mem_of_getElem? (i := 42) rfl) rfl)
theorem tx_w_ab : Cond.arrayClass .boolean ∈ tx_B := (bg_1 (List.mem_of_getElem? (i := 171) rfl) rfl)
theorem tx_w_oi : Cond.instanceMethod objectInit ∈ tx_B := (bg_1 (List.mem_of_getElem? (i := 17) rfl) rfl)
theorem tx_w_s0 : Cond.static Lib.Math.abs.name ∈ tx_B := (bg_2 (List.mem_of_getElem? (i := 139) rfl) rfl)
theorem tx_w_s1 : Cond.static Lib.Math.max.name ∈ tx_B := (bg_2 (List.mem_of_getElem? (i := 142) rfl) rfl)
theorem tx_w_s2 : Cond.static Lib.Math.min.name ∈ tx_B := (bg_2 (List.mem_of_getElem? (i := 161) rfl) rfl)
theorem tx_w_im : Cond.initialized "java/lang/Math" ∈ tx_B := (bg_1 (List.mem_of_getElem? (i := 9) rfl) rfl)
theorem tx_w_cobj : Cond.code objectInit ⟨#[0xb1]⟩ 1 none ∈ tx_B := (bg_1 (List.mem_of_getElem? (i := 18) rfl) rfl)
theorem tx_w_cmax : Cond.code Lib.Math.max.name Lib.Math.max.code 2 (some .int) ∈ tx_B := (bg_2 (List.mem_of_getElem? (i := 143) rfl) rfl)
theorem tx_w_cabs : Cond.code Lib.Math.abs.name Lib.Math.abs.code 1 (some .int) ∈ tx_B := (bg_2 (List.mem_of_getElem? (i := 140) rfl) rfl)
theorem tx_w_cmin : Cond.code Lib.Math.min.name Lib.Math.min.code 2 (some .int) ∈ tx_B := (bg_2 (List.mem_of_getElem? (i := 162) rfl) rfl)
