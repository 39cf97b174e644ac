section M15
variable {L : Nat} {u v : Bool} {I F I' F' : Nat → Nat → Int32} {J J' : Nat → Int64} {D : Nat} {s : (Nat → Nat) × (Nat → Nat → Nat)}
theorem sm_n {f : Nat → Int32} {c : Nat → Nat} : ∀ n, (∀ j, j < n → f j = nI (c j) ∧ 1 ≤ c j ∧ c j ≤ 99) → ∃ t, bx_sum f n = nI t ∧ n ≤ t ∧ t ≤ 99 * n
  | 0, _ => ⟨0, rfl, by omega, by omega⟩
  | n + 1, h => by
    obtain ⟨t, t1, t2, t3⟩ := sm_n n (fun j hj => h j (by omega))
    obtain ⟨a, b, d⟩ := h n (by omega)
    exact ⟨t + c n, by rw [bx_sum, t1, a, ad_n], by omega, by omega⟩
theorem sm_c {f g : Nat → Int32} : ∀ n, (∀ j, j < n → f j = g j) → bx_sum f n = bx_sum g n
  | 0, _ => rfl
  | n + 1, h => by rw [bx_sum, bx_sum, sm_c n (fun j hj => h j (by omega)), h n (by omega)]
theorem shL_c {a all : Int32} {f g : Nat → Int32} : ∀ n, (∀ j, j < n → f j = g j) → shL a all f n = shL a all g n
  | 0, _ => rfl
  | n + 1, h => by rw [shL, shL, shL_c n (fun j hj => h j (by omega)), h n (by omega)]
theorem shA_c {a all c o : Int32} {f g : Nat → Int32} : ∀ n, (∀ j, j < n → f j = g j) → shA a all c o f n = shA a all c o g n
  | 0, _ => rfl
  | n + 1, h => by rw [shA, shA, shA_c n (fun j hj => h j (by omega)), h n (by omega)]
theorem mc_share (hR : R u I F J) {w n : Int32} : MC L u I F J 74 148 [.ref 1, .int w, .int n, .float 0, .float 0, .float 0, .float 0, .float 0, .float 0] [.ref 56, .int w, .int n, .float 0, .float 0, .float 0, .float 0, .float 0, .float 0] := by
  obtain ⟨s, r1, ⟨hC, hG, hL⟩, hB, r4, r5, r6, r7⟩ := id hR
  have a2 := hC.1.2.2.1
  have b2 := hL.1.2.2.1
  have h4 := hG.1.2.2.1
  by_cases hw : inB w 0 (nI (s.1 2) - 1) ∧ inB n 0 999
  · obtain ⟨m, m1, e⟩ := (inB_c (by omega)).mp hw.1
    have hf : ∀ j, j < s.1 2 → F 64 j = F (Tk u + 6) j := fun j hj => (hL.2.2.2 j hj).trans (hC.2.2.2 j hj).symm
    obtain ⟨t, t1, t2, t3⟩ := sm_n (f := F (Tk u + 6)) (c := s.2 5) (s.1 2) (fun j hj => ⟨hC.2.2.2 j hj, hG.2.2.2 j hj⟩)
    have hne : ¬ nI t = 0 := nI_ne0 (by omega) (by omega)
    have h1 : (if 1 < nI t then nI t else 1) = nI t := by
      by_cases g : 1 < t
      · exact if_pos (show (1 : Int32) < nI t from lt_n (i := 1) g (by omega))
      · have e1 : t = 1 := by omega
        rw [e1]
        decide
    have hx := x_share (L := L) (u := u) (v := !u) (I := I) (F := F) (J := J) a2 h4 m1 hw.2 t1 hne h1
    have hm := y_share (L := L) (u := u) (v := !u) (I := I) (F := F) (J := J) b2 h4 m1 hw.2 ((sm_c _ hf).trans t1) hne
    rw [hf m m1, shA_c _ hf, shL_c _ hf] at hm
    rw [e]
    exact MC_q hx hm hR
  · exact MC_q (x_shareN (by rw [a2]; exact hw)) (y_shareN (by rw [b2]; exact hw)) hR
theorem mc_odds (hR : R u I F J) {n x k w : Int32} : MC L u I F J 76 152 [.ref 1, .int n, .int x, .int k, .int w, .float 0, .float 0, .float 0] [.ref 56, .int n, .int x, .int k, .int w, .float 0, .float 0, .float 0] := by
  by_cases h : inB n 0 6 ∧ inB x 0 10 ∧ inB k 0 6 ∧ inB w 0 1
  · obtain ⟨n', n1, e1⟩ := inB_of (k := 6) (by decide) h.1
    obtain ⟨x', n2, e2⟩ := inB_of (k := 10) (by decide) h.2.1
    obtain ⟨k', n3, e3⟩ := inB_of (k := 6) (by decide) h.2.2.1
    rw [e1, e2, e3]
    exact MC_q (x_odds (by omega) (by omega) (by omega) h.2.2.2) (y_odds (by omega) (by omega) (by omega) h.2.2.2) hR
  · exact MC_q (x_oddsN h) (y_oddsN h) hR
theorem mc_back (hR : R u I F J) {a b p q w : Int32} : MC L u I F J 75 149 [.ref 1, .int a, .int b, .int p, .int q, .int w] [.ref 56, .int a, .int b, .int p, .int q, .int w, .float 0, .float 0, .float 0, .float 0, .float 0] := by
  by_cases h : inB a 0 99 ∧ inB b 0 99 ∧ inB p 1 20 ∧ inB q 1 20 ∧ inB w 0 1
  · obtain ⟨a', n1, e1⟩ := inB_of (k := 99) (by decide) h.1
    obtain ⟨b', n2, e2⟩ := inB_of (k := 99) (by decide) h.2.1
    obtain ⟨p', n3, n4, e3⟩ := inB_1 (k := 20) (by decide) h.2.2.1
    obtain ⟨q', n5, n6, e4⟩ := inB_1 (k := 20) (by decide) h.2.2.2.1
    obtain ⟨qn, S, W, Q, hk, hx⟩ := x_back (L := L) (u := u) (v := !u) (I := I) (F := F) (J := J) (a := a') (b := b') (p := p') (q := q') (by omega) (by omega) n3 (by omega) n5 (by omega) h.2.2.2.2
    obtain ⟨far, hm⟩ := y_back (L := L) (u := u) (v := !u) (I := bkI I qn) (F := bkF F S W Q) (J := J) (a := a') (b := b') (p := p') (q := q') (by omega) (by omega) n3 (by omega) n5 (by omega) h.2.2.2.2 hk
    rw [e1, e2, e3, e4]
    refine ⟨u, _, _, J, _, _, J, _, ⟨by unfold bkF; rw [up_n (by decide), up_n (by decide), up_n (by decide)], by unfold bkF; rw [up_n (by decide), up_n (by decide), up_n (by decide), up_n (by decide)], _, rfl⟩, hx, hm, R_q (fun c x y => ?_) (fun c x => ?_) (fun c x1 x2 x3 x4 x5 => ?_) hR⟩
    · unfold bkI
      rw [up_n x, up_n y]
    · unfold bkI
      rw [up_s, ud_n x, up_n (by decide)]
    · unfold bkF
      rw [up_n x5, up_n x3, up_n x2, up_n x1]
  · exact MC_q (x_backN h) (y_backN h) hR
end M15
