section SND5
variable {p : Program} {l : Launch} {e : Env} {R : Room} {s : State} {m : MethodId} {args : Array Value} {below : List Frame} {meth : Method} {c : Code} {Q : State → Prop} {g : Wd} {mid : Nat} {cells slots pc : Nat} {ls st : List Value} {h : List Cel} {a b op : Nat} {cc : Int} {q : Cfg}
/-- the room of a callee -/
abbrev rmO (k : Nat) (h h1 : List Cel) : Room := { frames := fO k, cells := h1.length - h.length, slots := sl h1 - sl h, locals := qO k }
abbrev wsC (k : Nat) : List Jvm.Cond := Cond.code (yO k) (bO k) (lO k) (rO k) :: tx_B
/-- behind a call, whatever the call was -/
theorem after_call {h1 : List Cel} {r : Option Value} {as rest : List Value} {st0 : List Value} {H : Heap} {locs : List Loc} {la : Array Slot} (hm : h.length ≤ h1.length ∧ sl h ≤ sl h1) (hsh : (∃ v, r = some (.int v)) ∨ (∃ v, r = some (.long v)) ∨ r = none)
    (g2 : va_S (A0 g) s.heap H locs) (g3 : LR g (lO mid) ls la)
    (run : va_Run p l e R s m args below meth c H locs cells slots (h1.length - h.length) (sl h1 - sl h) (F0 m pc la st0) (rest.map (tr g.2.2.2.2.1 g.2.2.2.2.2)) (QcO g h1 r as.toArray) (A0 g))
    (kk : WA p l e R s m args below meth c Q g mid (cells + (h1.length - h.length)) (slots + (sl h1 - sl h)) (pc + 3) ls (r.toList ++ rest) h1) :
    W p l e R s m args below meth c H locs cells slots Q (F0 m pc la st0) := by
  rcases hsh with ⟨v, rfl⟩ | ⟨v, rfl⟩ | rfl
  · refine va_calli (S := Unit) (post := fun x _ => x = v) (B := fun _ t => HS g h1 t t.heap) (A1 := A0 g) (a := as.toArray) run g2 (fun q _ h => h) (fun q h => h) (fun x u t H1 locs1 ht hvm hp hB _ _ hS => ?_)
    subst hp
    have hB : HS g h1 t t.heap := hB
    rw [ht] at hB
    exact kk H1 locs1 la (HS.moved hvm.symm hB) hS g3
  · refine va_calll (S := Unit) (post := fun x _ => x = v) (B := fun _ t => HS g h1 t t.heap) (A1 := A0 g) (a := as.toArray) run g2 (fun q _ h => h) (fun q h => h) (fun x u t H1 locs1 ht hvm hp hB _ _ hS => ?_)
    subst hp
    have hB : HS g h1 t t.heap := hB
    rw [ht] at hB
    exact kk H1 locs1 la (HS.moved hvm.symm hB) hS g3
  · refine va_callv (S := Unit) (post := fun _ => True) (B := fun _ t => HS g h1 t t.heap) (A1 := A0 g) (a := as.toArray) run g2 (fun q _ h => h) (fun q h => h) (fun u t H1 locs1 ht hvm hp hB _ _ hS => ?_)
    have hB : HS g h1 t t.heap := hB
    rw [ht] at hB
    exact kk H1 locs1 la (HS.moved hvm.symm hB) hS g3
theorem PcO_blind {as : List Value} : FrameBlind (PcO g as h) := fun a U gf mk hp => by
  obtain ⟨e, h1, h2⟩ := hp
  exact ⟨e, HS.moved (u := U) (U := U.calling gf mk a) (Vm.Alike.refl U.vm) h1, KS.same (u := U) (U := U.calling gf mk a) rfl h2⟩
theorem PcO_pre {as : List Value} {H : Heap} (h1 : HS g h s H) (h2 : KS g s) : ∀ U : State, U.heap = H → s.WarmedH U.vm → PcO g as h (as.map (tr g.2.2.2.2.1 g.2.2.2.2.2)).toArray U := fun U hU hW => ⟨rfl, by rw [hU]; exact HS.moved hW.alike h1, KS.warm hW h2⟩
theorem nest_nw {k : Nat} (X : Cx p R s m args meth c g mid) (hn : (tx_R (oO mid), a, yO k, RX6) ∈ tx_nest) : va_Nw (.methodLinkNest (tx_R (oO mid)) a (yO k) RX6) s := X.2.2.2.2.2.1.2.2 (tx_R (oO mid), a, yO k, RX6) hn
theorem callB_O {k n : Nat} {h1 : List Cel} (X : Cx p R s m args meth c g mid) (hk : tx_ok k) (hlk : Cond.methodLink (tx_R (oO mid)) a (yO k) ∈ tx_B) (hrm : rmI mid k = true) (hn : (if kO k = 0 then nA k else nA k - 1) = n) : CallB R s args (tx_R (oO mid)) a (yO k) (bO k) (lO k) (rO k) (wsC k) (rmO k h h1) (h1.length - h.length) (sl h1 - sl h) n := by
  obtain ⟨hr1, hr2⟩ := of_decide_eq_true hrm
  have hf := X.2.2.2.2.2.2.1
  have hq := X.2.2.2.2.2.2.2.1
  have hw := X.2.2.2.2.1
  refine callB_of n hw (wl_goodIn hk.1) rfl rfl rfl (hw _ hk.2.1) (hw _ hlk) ⟨hk.2.2.1.2.1, hk.2.2.1.2.2, by rw [← hn]; exact hk.2.2.2.1⟩ ⟨by show fO k + 1 ≤ _; omega, by show 8 + (lO k + 11) + qO k ≤ _; omega⟩
theorem cnB_O {k n : Nat} {h1 : List Cel} (X : Cx p R s m args meth c g mid) (hk : tx_ok k) (hlk : (tx_R (oO mid), a, yO k, RX6) ∈ tx_nest) (hrm : rmI mid k = true) (hn : (if kO k = 0 then nA k else nA k - 1) = n) : va_CN R s args (tx_R (oO mid)) a (yO k) RX6 (bO k) (lO k) (rO k) (wsC k) (rmO k h h1) (h1.length - h.length) (sl h1 - sl h) n := by
  obtain ⟨hr1, hr2⟩ := of_decide_eq_true hrm
  have hf := X.2.2.2.2.2.2.1
  have hq := X.2.2.2.2.2.2.2.1
  have hw := X.2.2.2.2.1
  refine va_cnB n hw (wl_goodIn hk.1) rfl rfl rfl (nest_nw X hlk) (hw _ hk.2.1) ⟨hk.2.2.1.2.1, hk.2.2.1.2.2, by rw [← hn]; exact hk.2.2.2.1⟩ ⟨by show fO k + 1 ≤ _; omega, by show 8 + (lO k + 11) + qO k ≤ _; omega⟩
theorem stk_split {n : Nat} {st : List Value} (hn : n ≤ st.length) : ((st.take n).reverse.map (tr g.2.2.2.2.1 g.2.2.2.2.2)).reverse ++ (st.drop n).map (tr g.2.2.2.2.1 g.2.2.2.2.2) = st.map (tr g.2.2.2.2.1 g.2.2.2.2.2) := by
  rw [List.map_reverse, List.reverse_reverse, ← List.map_append, List.take_append_drop]
theorem snd_call {n : Nat} {h1 : List Cel} {r : Option Value} (ih : PS l g n) (X : Cx p R s m args meth c g mid) (hop : 60 ≤ op ∧ op < 63) (hok : okI mid pc (op, a, b, cc) = true) (hc : cgo op b st h = true) (hx : exec n b 0 (entL b (st.take (nA b)).reverse) [] h = some (h1, r)) (hr : RM R cells slots h h1)
    (kk : WA p l e R s m args below meth c Q g mid (cells + (h1.length - h.length)) (slots + (sl h1 - sl h)) (pc + 3) ls (r.toList ++ st.drop (nA b)) h1) : WA p l e R s m args below meth c Q g mid cells slots pc ls st h := by
  have hmono := exec_mono _ _ _ _ _ _ _ hx
  dsimp only at hmono
  unfold cgo at hc
  simp only [Bool.and_eq_true, decide_eq_true_eq] at hc
  obtain ⟨⟨⟨hn, hall⟩, hwt⟩, hrecv⟩ := hc
  have hbb := X.2.2.2.2.2.2.2.2.2.2
  have hlen : (st.take (nA b)).reverse.length = nA b := by rw [List.length_reverse, List.length_take]; omega
  have hallr : (st.take (nA b)).reverse.all isV = true := by rw [List.all_reverse]; exact hall
  obtain ⟨hr1, hr2⟩ := hr
  intro H locs la g1 g2 g3
  have hsz : (F0 m pc la (st.map (tr g.2.2.2.2.1 g.2.2.2.2.2))).locals.size = lO mid := g3.2.1
  have hW : 2 * (F0 m pc la (st.map (tr g.2.2.2.2.1 g.2.2.2.2.2))).monitorRoom + (((st.drop (nA b)).map (tr g.2.2.2.2.1 g.2.2.2.2.2)).map fun v => v.category).sum ≤ 8 := by
    show 2 * 0 + _ ≤ 8
    rw [tr_wt]
    omega
  have hroom : cells + (h1.length - h.length) ≤ R.cells ∧ slots + (sl h1 - sl h) ≤ R.slots := by omega
  have S0 : CallFix p m c (bO mid) (lO mid) s args tx_B (tx_R (oO mid)) := ⟨X.1, X.2.1, X.2.2.1, X.2.2.2.1, X.2.2.2.2.1⟩
  have hcases : op = 60 ∨ op = 61 ∨ op = 62 := by omega
  rcases hcases with rfl | rfl | rfl
  · -- invokevirtual
    obtain ⟨hd, hrm⟩ := Bool.and_eq_true_iff.mp hok
    obtain ⟨hd, ho⟩ := Bool.and_eq_true_iff.mp hd
    obtain ⟨hC, hkind⟩ := of_decide_eq_true ho
    obtain ⟨hb, hlk, -⟩ := tx_C_ok _ hC
    have hlk := hlk rfl
    have hk := tx_all b hb
    have M := met_of ih hbb hk hx hallr hlen
    have hst := stk_split (g := g) hn
    obtain ⟨as', i, has, hri⟩ : ∃ as' i, (st.take (nA b)).reverse = .ref i :: as' ∧ ∃ fs, h[i]? = some (.inl (oO b, fs)) := by
      revert hrecv
      cases hh : (st.take (nA b)).reverse with
      | nil => intro z; cases z
      | cons v as' =>
        cases v with
        | ref i =>
          intro z
          refine ⟨as', i, rfl, ?_⟩
          have z : (match h[i]? with
            | some (.inl (ci, _)) => ci == oO b
            | _ => false) = true := z
          split at z
          · rename_i ci fs hi
            exact ⟨fs, by rw [hi, eq_of_beq z]⟩
          · cases z
        | _ => intro z; cases z
    obtain ⟨fs, hri⟩ := hri
    obtain ⟨i0, rfl⟩ := g1.in hri (by intro L xs z; cases z)
    rw [has] at M hst hlen
    have hlen' : as'.length = nA b - 1 := by rw [List.length_cons] at hlen; omega
    have hnk : (if kO b = 0 then nA b else nA b - 1) = nA b - 1 := by rw [if_neg (by rw [hkind]; decide)]
    have hoo := (hk.2.2.2.2.2.2.1 (by rw [hkind]; decide)).2.1
    have hrc := va_recv X.2.2.2.2.2.1.1 g1.2.1 (tx_cl _ hoo) (wsO_get hri)
    have cw : CallW R s args (tx_R (oO mid)) (yO b).cls a (yO b) (bO b) (lO b) (rO b) (wsC b) (rmO b h h1) (h1.length - h.length) (sl h1 - sl h) (nA b - 1) := ⟨callB_O X hk hlk hrm hnk, X.2.2.2.2.1 _ (hk.2.2.2.2.2.2.1 (by rw [hkind]; decide)).1, X.2.2.2.2.1 _ (hk.2.2.2.2.2.2.2.1 hkind)⟩
    refine after_call hmono.1 hmono.2 g2 g3 (va_runV (As := as'.map (tr g.2.2.2.2.1 g.2.2.2.2.2)) S0 M cw ⟨PcO_blind, by rw [hk.2.2.2.2.1]; exact hrc, PcO_pre g1 X.2.2.2.2.2.1⟩ rfl (by rw [List.length_map]; exact hlen') hsz ?_ hW (dq_eq hd) hroom) kk
    show st.map _ = _
    rw [← hst]
    simp [tr, ad, enc]
  · -- invokespecial
    obtain ⟨hd, hrm⟩ := Bool.and_eq_true_iff.mp hok
    obtain ⟨hd, ho⟩ := Bool.and_eq_true_iff.mp hd
    obtain ⟨hC, hkind, hcc⟩ := of_decide_eq_true ho
    obtain ⟨hb, hlk0, hlk1⟩ := tx_C_ok _ hC
    have hk := tx_all b hb
    have M := met_of ih hbb hk hx hallr hlen
    have hst := stk_split (g := g) hn
    obtain ⟨as', i, has⟩ : ∃ as' i, (st.take (nA b)).reverse = .ref i :: as' := by
      revert hrecv
      cases hh : (st.take (nA b)).reverse with
      | nil => intro z; cases z
      | cons v as' =>
        cases v with
        | ref i => intro z; exact ⟨as', i, rfl⟩
        | _ => intro z; cases z
    rw [has] at M hst hlen
    have hlen' : as'.length = nA b - 1 := by rw [List.length_cons] at hlen; omega
    have hnk : (if kO b = 0 then nA b else nA b - 1) = nA b - 1 := by rw [if_neg (by rw [hkind]; decide)]
    obtain ⟨hy1, hret⟩ := hk.2.2.2.2.2.2.2.2.1 hkind
    have hin := X.2.2.2.2.1 _ (hk.2.2.2.2.2.2.1 (by rw [hkind]; decide)).1
    have hstk : st.map (tr g.2.2.2.2.1 g.2.2.2.2.2) = (as'.map (tr g.2.2.2.2.1 g.2.2.2.2.2)).reverse ++ .ref (ad g.2.2.2.2.1 g.2.2.2.2.2 i) :: (st.drop (nA b)).map (tr g.2.2.2.2.1 g.2.2.2.2.2) := by
      rw [← hst]
      simp [tr]
    rcases (show cc.toNat = 0 ∨ cc.toNat = 1 by omega) with hz | hz
    · have cw := callB_O (h := h) (h1 := h1) X hk (hlk0 hz) hrm hnk
      rw [hret] at cw
      rw [hret] at M
      refine after_call hmono.1 hmono.2 g2 g3 (va_runI (As := as'.map (tr g.2.2.2.2.1 g.2.2.2.2.2)) S0 M (by unfold wsC at cw; rw [hret] at cw; exact ⟨cw, hy1, hin⟩) ⟨PcO_blind, PcO_pre g1 X.2.2.2.2.2.1⟩ rfl (by rw [List.length_map]; exact hlen') hsz hstk hW (dq_eq hd) hroom) kk
    · have cw := cnB_O (h := h) (h1 := h1) X hk (hlk1 hz) hrm hnk
      rw [hret] at cw
      rw [hret] at M
      refine after_call hmono.1 hmono.2 g2 g3 (va_runIN (As := as'.map (tr g.2.2.2.2.1 g.2.2.2.2.2)) S0 M (by unfold wsC at cw; rw [hret] at cw; exact ⟨cw, hy1, hin⟩) ⟨PcO_blind, PcO_pre g1 X.2.2.2.2.2.1⟩ rfl (by rw [List.length_map]; exact hlen') hsz hstk hW (dq_eq hd) hroom) kk
  · -- invokestatic
    obtain ⟨hd, hrm⟩ := Bool.and_eq_true_iff.mp hok
    obtain ⟨hd, ho⟩ := Bool.and_eq_true_iff.mp hd
    obtain ⟨hC, hkind, hcc⟩ := of_decide_eq_true ho
    obtain ⟨hb, hlk0, hlk1⟩ := tx_C_ok _ hC
    have hk := tx_all b hb
    have M := met_of ih hbb hk hx hallr hlen
    have hst := stk_split (g := g) hn
    have hnk : (if kO b = 0 then nA b else nA b - 1) = nA b := by rw [if_pos hkind]
    have hstat := X.2.2.2.2.1 _ (hk.2.2.2.2.2.1 hkind)
    rcases (show cc.toNat = 0 ∨ cc.toNat = 1 by omega) with hz | hz
    · have cw := callB_O (h := h) (h1 := h1) X hk (hlk0 hz) hrm hnk
      refine after_call hmono.1 hmono.2 g2 g3 (va_runS (As := (st.take (nA b)).reverse.map (tr g.2.2.2.2.1 g.2.2.2.2.2)) S0 M ⟨cw, hstat⟩ ⟨PcO_blind, PcO_pre g1 X.2.2.2.2.2.1⟩ rfl (by rw [List.length_map]; exact hlen) hsz hst.symm hW (dq_eq hd) hroom) kk
    · have cw := cnB_O (h := h) (h1 := h1) X hk (hlk1 hz) hrm hnk
      refine after_call hmono.1 hmono.2 g2 g3 (va_runSN (As := (st.take (nA b)).reverse.map (tr g.2.2.2.2.1 g.2.2.2.2.2)) S0 M ⟨cw, hstat, trivial⟩ ⟨PcO_blind, PcO_pre g1 X.2.2.2.2.2.1⟩ rfl (by rw [List.length_map]; exact hlen) hsz hst.symm hW (dq_eq hd) hroom) kk
/-- SOUNDNESS -/
theorem snd_all : ∀ n, PS l g n := by
  intro n
  induction n with
  | zero => intro mid pc ls st h h' r hx; cases hx
  | succ n ih =>
    intro mid pc ls st h h' r hx p e R s m args below meth c Q cells slots X hr K
    unfold exec at hx
    split at hx
    · cases hx
    · rename_i op a b cc hf
      have hok := fetch_ok hf
      by_cases h1 : op < 60
      · rw [if_pos h1] at hx
        obtain ⟨q, hq, hx⟩ := Option.bind_eq_some_iff.mp hx
        have hm := exec_mono _ _ _ _ _ _ _ hx
        have hj := (stp_sh hq).mono
        dsimp only at hm
        have hr' := hr
        obtain ⟨hr1, hr2⟩ := hr'
        refine snd_stp X h1 hok hq ⟨by omega, by omega⟩ (fun cells' slots' hc hs => ?_)
        exact ih _ _ _ _ _ _ _ hx p e R s m args below meth c Q cells' slots' X ⟨by omega, by omega⟩ (fun c2 s2 pcR H locs la e1 e2 => K c2 s2 pcR H locs la (by omega) (by omega))
      · rw [if_neg h1] at hx
        by_cases h2 : op < 63
        · rw [if_pos h2] at hx
          by_cases h3 : cgo op b st h = true
          · rw [if_pos h3] at hx
            obtain ⟨⟨hA, rA⟩, hq, hx⟩ := Option.bind_eq_some_iff.mp hx
            have hm := exec_mono _ _ _ _ _ _ _ hx
            have hm2 := exec_mono _ _ _ _ _ _ _ hq
            dsimp only at hm hm2 hx
            have hr' := hr
            obtain ⟨hr1, hr2⟩ := hr'
            refine snd_call ih X ⟨by omega, h2⟩ hok h3 hq ⟨by omega, by omega⟩ ?_
            exact ih _ _ _ _ _ _ _ hx p e R s m args below meth c Q _ _ X ⟨by omega, by omega⟩ (fun c2 s2 pcR H locs la e1 e2 => K c2 s2 pcR H locs la (by omega) (by omega))
          · rw [if_neg h3] at hx; cases hx
        · rw [if_neg h2] at hx
          have hK : ∀ (st' : List Value), (r.toList.map (tr g.2.2.2.2.1 g.2.2.2.2.2) = r.toList) → st = r.toList → h' = h → RT mid pc r → WA p l e R s m args below meth c Q g mid cells slots pc ls st h := by
            intro _ e0 e1 e2 rt H locs la g1 g2 g3
            subst e2
            rw [e1, e0]
            exact K cells slots pc H locs la rfl rfl g1 g2 rt
          unfold rtn at hx
          split at hx
          · split at hx
            · rename_i v ht
              cases hx
              exact hK [] rfl rfl rfl (Or.inl ⟨v, rfl, dq_eq hok, ht⟩)
            · cases hx
          · split at hx
            · rename_i v ht
              cases hx
              exact hK [] rfl rfl rfl (Or.inr (Or.inl ⟨v, rfl, dq_eq hok, ht⟩))
            · cases hx
          · split at hx
            · rename_i ht
              cases hx
              exact hK [] rfl rfl rfl (Or.inr (Or.inr ⟨rfl, dq_eq hok, ht⟩))
            · cases hx
          · cases hx
end SND5
