section M13
variable {L : Nat} {u v : Bool} {I F I' F' : Nat → Nat → Int32} {J J' : Nat → Int64} {D : Nat} {s : (Nat → Nat) × (Nat → Nat → Nat)}
theorem R_by {H : Nat → Nat} {nD t0 P C : Nat} (hR : R u I F J) : R u (va_up I 56 (upd (I 56) 0 0)) (byF F H nD t0 P C) J := by
  refine R_q (fun a x _ => up_n x) (fun k hk => by rw [up_s, ud_n hk]) (fun a _ _ _ x _ => ?_) hR
  unfold byF
  exact up_n x
theorem mc_coming (hR : R u I F J) {n : Int32} : MC L u I F J 68 139 [.ref 1, .int n] [.ref 56, .int n] := by
  obtain ⟨s, r1, r2, hB, ⟨k, x, k1, k2, x1, x2, k3, hU⟩, r5, r6, r7⟩ := id hR
  obtain ⟨hC, hG, hL⟩ := id r2
  obtain ⟨⟨⟨i0, i1, i2, i3, i4, i5, i6, i7, i8⟩, g0, g1, g2⟩, d, h, C, p0, p1, p2, q, f0, hd, f1, f2, h24, f3, f5, f6, f7, f8, f10, hS⟩ := id hB
  obtain ⟨a0, a1, a2, a3, a4⟩ := hC.1
  obtain ⟨b0, b1, b2, b3⟩ := hL.1
  have hD := hG.1.1
  have hr := x_remember (L := L) (u := u) (v := !u) (I := I) (F := F) (J := J) x1 x2 k1 k2 (BE_x hB).1 (BE_x hB).2
  have eg : va_up (rbF F x) 20 (F 20) = rbF F x := by rw [show F 20 = rbF F x 20 from rbF_20.symm, up_id]
  by_cases h1 : inB n 0 (nI (s.1 0) - 1)
  · obtain ⟨m, m1, e⟩ := (inB_c (by omega)).mp h1
    by_cases h2 : m < d
    · have hx := x_comingN (L := L) (u := u) (v := !u) (F := F) (J := J) (I := I) (d := n) (fun z => z.2 (by rw [e, i0, f0]; exact lt_n h2 (by omega)))
      have hm := y_comingN (L := L) (u := u) (v := !u) (F := F) (J := J) (I := I) (d := n) (fun z => by
        have z1 := z.1
        rw [e, f0] at z1
        exact absurd ((nI_leI (by omega) (by omega)).mp z1) (by omega))
      exact MC_q hx hm hR
    · have hP : F 65 5 + F 65 6 + F 65 7 + F 65 8 = nI (p0 + p1 + p2 + q) := by rw [f5, f6, f7, f8, ad_n, ad_n, ad_n]
      have hP2 : 0 + F 20 0 + F 20 1 + F 20 2 + I 19 5 = nI (p0 + p1 + p2 + q) := by rw [z0a, g0, g1, g2, i5, hP]
      have hx := x_coming (L := L) (u := u) (v := !u) (F := F) (J := J) (I := I) (d := m) (H := s.2 0) a0 hD (i0.trans f0) (by omega) m1 (by omega) (i3.trans f3) (by omega) hP2 (fun t ht => ⟨(hC.2.1 t ht).1, by have := (hG.2.1 t ht).1; omega⟩)
      have hm := y_coming (L := L) (u := u) (v := !u) (F := F) (J := J) (I := I) (d := m) (H := s.2 0) b0 hD f0 hd m1 (by omega) f3 (by omega) hP (fun t ht => ⟨(hL.2.1 t ht).1, by have := (hG.2.1 t ht).1; omega⟩)
      rw [e]
      exact ⟨u, _, _, J, _, _, J, _, ⟨rfl, by unfold byF; rw [up_n (by decide)], _, rfl⟩, hx, hm, R_by hR⟩
  · have hx := x_comingN (L := L) (u := u) (v := !u) (F := F) (J := J) (I := I) (d := n) (fun z => h1 (by rw [← a0]; exact z.1))
    have hm := y_comingN (L := L) (u := u) (v := !u) (F := F) (J := J) (I := I) (d := n) (fun z => h1 ⟨by
      have z1 := z.1
      rw [f0] at z1
      exact Int32.le_trans (nI_pos' (by omega)) z1, by rw [← b0]; exact z.2⟩)
    exact MC_q hx hm hR
theorem mc_menu (hR : R u I F J) {n : Int32} : MC L u I F J 69 141 [.ref 1, .int n, .float 0] [.ref 56, .int n, .float 0, .float 0, .float 0, .float 0] := by
  obtain ⟨s, r1, r2, hB, ⟨k, x, k1, k2, x1, x2, k3, hU⟩, r5, r6, r7⟩ := id hR
  obtain ⟨hC, hG, hL⟩ := id r2
  obtain ⟨⟨⟨i0, i1, i2, i3, i4, i5, i6, i7, i8⟩, g0, g1, g2⟩, d, h, C, p0, p1, p2, q, f0, hd, f1, f2, h24, f3, f5, f6, f7, f8, f10, hS⟩ := id hB
  obtain ⟨a0, a1, a2, a3, a4⟩ := hC.1
  obtain ⟨b0, b1, b2, b3⟩ := hL.1
  have hD := hG.1.1
  have hr := x_remember (L := L) (u := u) (v := !u) (I := I) (F := F) (J := J) x1 x2 k1 k2 (BE_x hB).1 (BE_x hB).2
  have eg : va_up (rbF F x) 20 (F 20) = rbF F x := by rw [show F 20 = rbF F x 20 from rbF_20.symm, up_id]
  have hW := hG.1.2.1
  by_cases hn : inB n 0 1
  · have hP : F 65 5 + F 65 6 + F 65 7 + F 65 8 = nI (p0 + p1 + p2 + q) := by rw [f5, f6, f7, f8, ad_n, ad_n, ad_n]
    have hP2 : 0 + F 20 0 + F 20 1 + F 20 2 + I 19 5 = nI (p0 + p1 + p2 + q) := by rw [z0a, g0, g1, g2, i5, hP]
    have hx := x_menu (L := L) (u := u) (v := !u) (F := F) (J := J) (I := I) (H := s.2 0) (du := s.2 2) a1 hW a0 hD (i0.trans f0) (by omega) (i3.trans f3) (by omega) hP2 (fun t ht => ⟨(hC.2.1 t ht).1, by have := (hG.2.1 t ht).1; omega⟩) (fun w hw => ⟨(hC.2.2.1 w hw).1, by have := (hG.2.2.1 w hw).1; omega⟩) hn
    have hm := y_menu (L := L) (u := u) (v := !u) (F := F) (J := J) (I := I) (H := s.2 0) b1 hW b0 hD f0 hd f3 (by omega) hP (fun t ht => ⟨(hL.2.1 t ht).1, by have := (hG.2.1 t ht).1; omega⟩) hn
    have he : ∀ t, onM (byF F (s.2 0) (s.1 0) d (p0 + p1 + p2 + q) C) (s.1 1) d t = if caB (I 19 8) (nI d) (F (Tk u + 3)) (F (Tk u + 4)) (cmO (s.2 0) (s.1 0) d (p0 + p1 + p2 + q) C) t (s.1 1) (s.1 1) = true then woI (F (Tk u + 5)) t (s.1 1) else -9 := by
      intro t
      unfold onM byF
      rw [up_n (j := 65) (by decide), up_n (j := 61) (by decide), up_n (j := 62) (by decide), up_n (j := 63) (by decide), up_s]
      have hk := menu_eq (fed := I 19 8) (fed' := F 65 11) (fd := F (Tk u + 3)) (fp := F (Tk u + 4)) (fd' := F 61) (fp' := F 62) (by_ := byN (s.2 0) (s.1 0) d (p0 + p1 + p2 + q) C (F 71) (14 - d)) (du := s.2 2) (po := s.2 3) (cm := fun j => (cpN (s.2 0) d (p0 + p1 + p2 + q) C (min (j + 1) (s.1 0) - d)).1) (s := t) (nW := s.1 1) (t0 := d) (cmI := cmO (s.2 0) (s.1 0) d (p0 + p1 + p2 + q) C) hW (by omega) i8
        (fun w hw => ⟨(hC.2.2.1 w hw).1, by have := (hG.2.2.1 w hw).1; omega, (hC.2.2.1 w hw).2.1⟩) (fun w hw => ⟨(hL.2.2.1 w hw).1, by have := (hG.2.2.1 w hw).1; omega, (hL.2.2.1 w hw).2.1⟩) (fun w hw => (hG.2.2.1 w hw).2.2.1)
        (fun j hj hj2 => by
          have cb := (cp_b (H := s.2 0) (t0 := d) (P := p0 + p1 + p2 + q) (C := C) (nD := s.1 0) (by omega) (fun t ht => by have := (hG.2.1 t ht).1; omega) (min (j + 1) (s.1 0) - d) (by omega)).2
          refine ⟨rfl, ?_, by show (cpN (s.2 0) d (p0 + p1 + p2 + q) C (min (j + 1) (s.1 0) - d)).1 < 100000; omega⟩
          unfold byN
          rw [if_pos (by omega)])
        (fun j hj hj2 => by
          have := cp_m (H := s.2 0) (t0 := d) (P := p0 + p1 + p2 + q) (C := C) (k := min (j + 1) (s.1 0) - d) (min (j + 1 + 1) (s.1 0) - d - (min (j + 1) (s.1 0) - d))
          rw [show min (j + 1) (s.1 0) - d + (min (j + 1 + 1) (s.1 0) - d - (min (j + 1) (s.1 0) - d)) = min (j + 1 + 1) (s.1 0) - d by omega] at this
          exact this)
      have hw2 : woI (F 63) t (s.1 1) = woI (F (Tk u + 5)) t (s.1 1) := woI_c _ (fun w hw => (hL.2.2.1 w hw).2.2.trans (hC.2.2.1 w hw).2.2.symm)
      rw [hw2]
      by_cases g : caB (I 19 8) (nI d) (F (Tk u + 3)) (F (Tk u + 4)) (cmO (s.2 0) (s.1 0) d (p0 + p1 + p2 + q) C) t (s.1 1) (s.1 1) = true
      · rw [if_pos g, if_pos (hk.mp g)]
      · rw [if_neg g, if_neg (fun z => g (hk.mpr z))]
    have hq := (mn_eq he (2 ^ s.1 1)).1
    rw [hq] at hx
    exact ⟨u, _, _, J, _, _, J, _, ⟨rfl, by unfold byF; rw [up_n (by decide)], _, rfl⟩, hx, hm, R_by hR⟩
  · exact MC_q (x_menuN hn) (y_menuN hn) hR
end M13
