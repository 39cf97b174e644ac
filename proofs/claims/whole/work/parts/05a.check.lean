/-! a row is what decode says, with the words that it needs -/
def dq (mid pc : Nat) (i : Instr) (n : Nat) : Bool := decide (decode (bO mid) pc = .ok (i, n))
def okC (k : Nat) : Jvm.ClassFile.Cond := match k with
  | 0 => .eq
  | 1 => .ne
  | 2 => .lt
  | 3 => .ge
  | 4 => .gt
  | _ => .le
def rmI (mid k : Nat) : Bool := decide (fO k + 1 ≤ fO mid ∧ 8 + (lO k + 11) + qO k ≤ qO mid)
def okI (mid pc : Nat) : Nat × Nat × Nat × Int → Bool := fun i => match i with
  | (op, a, b, c) => match op with
    | 0 => dq mid pc (.iconst c) 1
    | 1 => dq mid pc (.bipush c) 2 && decide ((Int8.ofInt c).toInt32 = Int32.ofInt c)
    | 2 => dq mid pc (.sipush c) 3 && decide ((Int16.ofInt c).toInt32 = Int32.ofInt c)
    | 3 => dq mid pc (.ldc a) 2 && decide ((oO mid, a, Int32.ofInt c) ∈ tx_I)
    | 4 => dq mid pc (.ldc2_w a) 3 && decide ((oO mid, a, Int64.ofInt c) ∈ tx_J)
    | 5 => dq mid pc (.lconst (Fin.ofNat 2 a)) 1 && decide (a < 2)
    | 6 => dq mid pc (.iload_n (Fin.ofNat 4 a)) 1 && decide (a < 4)
    | 7 => dq mid pc (.iload a) 2
    | 8 => dq mid pc (.aload_n (Fin.ofNat 4 a)) 1 && decide (a < 4)
    | 9 => dq mid pc (.istore_n (Fin.ofNat 4 a)) 1 && decide (a < 4 ∧ a < lO mid)
    | 10 => dq mid pc (.istore a) 2 && decide (a < lO mid)
    | 11 => dq mid pc (.astore_n (Fin.ofNat 4 a)) 1 && decide (a < 4 ∧ a < lO mid)
    | 12 => dq mid pc (.iinc a c) 3 && decide (a < lO mid)
    | 13 => dq mid pc .iadd 1
    | 14 => dq mid pc .isub 1
    | 15 => dq mid pc .imul 1
    | 16 => dq mid pc .idiv 1
    | 17 => dq mid pc .irem 1
    | 18 => dq mid pc .ineg 1
    | 19 => dq mid pc .iand 1
    | 20 => dq mid pc .ior 1
    | 21 => dq mid pc .ishl 1
    | 22 => dq mid pc .ishr 1
    | 23 => dq mid pc .iushr 1
    | 24 => dq mid pc .ladd 1
    | 25 => dq mid pc .lcmp 1
    | 26 => dq mid pc .dup 1
    | 27 => dq mid pc .dup2 1
    | 28 => dq mid pc .pop 1
    | 29 => dq mid pc (.ifCond (okC a) c) 3 && decide ((pc : Int) + c = (b : Int) ∧ a < 6)
    | 30 => dq mid pc (.if_icmp (okC a) c) 3 && decide ((pc : Int) + c = (b : Int) ∧ a < 6)
    | 31 => dq mid pc (.goto c) 3 && decide ((pc : Int) + c = (b : Int))
    | 32 => dq mid pc (.ifnull c) 3
    | 33 => dq mid pc (.ifnonnull c) 3 && decide ((pc : Int) + c = (b : Int))
    | 34 => dq mid pc (.tableswitch (tx_swT a).1 (tx_swT a).2.1 (tx_swT a).2.2.1 (tx_swT a).2.2.2.1) (tx_swT a).2.2.2.2 && decide (tx_sw a = ((tx_swT a).1, swP (tx_swT a).2.1 (tx_swT a).2.2.2.1.toList) ∧ (tx_swT a).2.2.1 + 1 = (tx_swT a).2.1 + ((tx_swT a).2.2.2.1.toList.length : Int)) && ((tx_swT a).1 :: (tx_swT a).2.2.2.1.toList).all (fun o => decide (0 ≤ (pc : Int) + o))
    | 35 => dq mid pc (.lookupswitch (tx_swL a).1 (tx_swL a).2.1) (tx_swL a).2.2 && decide (tx_sw a = ((tx_swL a).1, (tx_swL a).2.1.toList)) && ((tx_swL a).2.1.toList.zip ((tx_swL a).2.1.toList.drop 1)).all (fun q => decide (q.1.1 < q.2.1)) && ((tx_swL a).1 :: (tx_swL a).2.1.toList.map (·.2)).all (fun o => decide (0 ≤ (pc : Int) + o))
    | 36 => dq mid pc (.getfield a) 3 && decide ((oO mid, a, b / 64, b % 64) ∈ tx_F)
    | 37 => dq mid pc (.putfield a) 3 && decide ((oO mid, a, b / 64, b % 64) ∈ tx_F) && (decide ((tx_T (b / 64) (b % 64)).2.2.2 = false) || decide ((yO mid).name = "<init>" ∧ (tx_T (b / 64) (b % 64)).1 = tx_R (oO mid)))
    | 38 => dq mid pc .iaload 1
    | 39 => dq mid pc .iastore 1
    | 40 => dq mid pc .baload 1
    | 41 => dq mid pc .bastore 1
    | 42 => dq mid pc .aaload 1
    | 43 => dq mid pc .aastore 1
    | 44 => dq mid pc .arraylength 1
    | 45 => if a = 0 then dq mid pc (.newarray .int) 2 else (dq mid pc (.newarray .boolean) 2 && decide (a = 1))
    | 46 => dq mid pc (.anewarray a) 3 && decide ((oO mid, a, 0) ∈ tx_K)
    | 47 => dq mid pc (.new a) 3 && decide ((oO mid, a, b) ∈ tx_K ∧ b < 8)
    | 48 => dq mid pc (.invokespecial a) 3 && decide ((oO mid, a) ∈ tx_O ∧ 1 ≤ fO mid ∧ 20 ≤ qO mid)
    | 49 => dq mid pc (.invokestatic a) 3 && decide ((oO mid, a, b) ∈ tx_A ∧ 1 ≤ fO mid ∧ 21 ≤ qO mid)
    | 50 => dq mid pc (.ldc_w a) 3 && decide ((oO mid, a, Int32.ofInt c) ∈ tx_I)
    | 60 => dq mid pc (.invokevirtual a) 3 && decide ((oO mid, a, b, 0) ∈ tx_C ∧ kO b = 1) && rmI mid b
    | 61 => dq mid pc (.invokespecial a) 3 && decide ((oO mid, a, b, c.toNat) ∈ tx_C ∧ kO b = 2 ∧ c.toNat < 2) && rmI mid b
    | 62 => dq mid pc (.invokestatic a) 3 && decide ((oO mid, a, b, c.toNat) ∈ tx_C ∧ kO b = 0 ∧ c.toNat < 2) && rmI mid b
    | 63 => dq mid pc .ireturn 1
    | 64 => dq mid pc .lreturn 1
    | 65 => dq mid pc .return_ 1
    | _ => false
theorem all_app {α : Type} {f : α → Bool} {l r : List α} (h1 : l.all f = true) (h2 : r.all f = true) : (l ++ r).all f = true := by rw [List.all_append, h1, h2]; rfl
set_option maxRecDepth 40000 in
theorem ck_0 : (tx_p0).all (fun r => okI 0 r.1 r.2) = true := by decide +kernel
set_option maxRecDepth 40000 in
theorem ck_1 : (tx_p1).all (fun r => okI 1 r.1 r.2) = true := by decide +kernel
set_option maxRecDepth 40000 in
theorem ck_2 : (tx_p2).all (fun r => okI 2 r.1 r.2) = true := by decide +kernel
set_option maxRecDepth 40000 in
theorem ck_3 : (tx_p3).all (fun r => okI 3 r.1 r.2) = true := by decide +kernel
set_option maxRecDepth 40000 in
theorem ck_4 : (tx_p4).all (fun r => okI 4 r.1 r.2) = true := by decide +kernel
set_option maxRecDepth 40000 in
theorem ck_5 : (tx_p5).all (fun r => okI 5 r.1 r.2) = true := by decide +kernel
set_option maxRecDepth 40000 in
theorem ck_6 : (tx_p6).all (fun r => okI 6 r.1 r.2) = true := by decide +kernel
set_option maxRecDepth 40000 in
theorem ck_7 : (tx_p7).all (fun r => okI 7 r.1 r.2) = true := by decide +kernel
set_option maxRecDepth 40000 in
theorem ck_8 : (tx_p8).all (fun r => okI 8 r.1 r.2) = true := by decide +kernel
set_option maxRecDepth 40000 in
theorem ck_9 : (tx_p9).all (fun r => okI 9 r.1 r.2) = true := by decide +kernel
set_option maxRecDepth 40000 in
theorem ck_10 : (tx_p10).all (fun r => okI 10 r.1 r.2) = true := by decide +kernel
set_option maxRecDepth 40000 in
theorem ck_11 : (tx_p11).all (fun r => okI 11 r.1 r.2) = true := by decide +kernel
set_option maxRecDepth 40000 in
theorem ck_12 : (tx_p12).all (fun r => okI 12 r.1 r.2) = true := by decide +kernel
set_option maxRecDepth 40000 in
theorem ck_13 : (tx_p13).all (fun r => okI 13 r.1 r.2) = true := by decide +kernel
set_option maxRecDepth 40000 in
theorem ck_14 : (tx_p14).all (fun r => okI 14 r.1 r.2) = true := by decide +kernel
set_option maxRecDepth 40000 in
theorem ck_15 : (tx_p15).all (fun r => okI 15 r.1 r.2) = true := by decide +kernel
set_option maxRecDepth 40000 in
theorem ck_16 : (tx_p16).all (fun r => okI 16 r.1 r.2) = true := by decide +kernel
set_option maxRecDepth 40000 in
theorem ck_17_0 : (tx_p17_0).all (fun r => okI 17 r.1 r.2) = true := by decide +kernel
set_option maxRecDepth 40000 in
theorem ck_17_1 : (tx_p17_1).all (fun r => okI 17 r.1 r.2) = true := by decide +kernel
set_option maxRecDepth 40000 in
theorem ck_17_2 : (tx_p17_2).all (fun r => okI 17 r.1 r.2) = true := by decide +kernel
theorem ck_17 : (tx_p17).all (fun r => okI 17 r.1 r.2) = true := all_app ck_17_0 (all_app ck_17_1 (ck_17_2))
set_option maxRecDepth 40000 in
theorem ck_18 : (tx_p18).all (fun r => okI 18 r.1 r.2) = true := by decide +kernel
set_option maxRecDepth 40000 in
theorem ck_19 : (tx_p19).all (fun r => okI 19 r.1 r.2) = true := by decide +kernel
set_option maxRecDepth 40000 in
theorem ck_20 : (tx_p20).all (fun r => okI 20 r.1 r.2) = true := by decide +kernel
set_option maxRecDepth 40000 in
theorem ck_21 : (tx_p21).all (fun r => okI 21 r.1 r.2) = true := by decide +kernel
set_option maxRecDepth 40000 in
theorem ck_22 : (tx_p22).all (fun r => okI 22 r.1 r.2) = true := by decide +kernel
set_option maxRecDepth 40000 in
theorem ck_23 : (tx_p23).all (fun r => okI 23 r.1 r.2) = true := by decide +kernel
set_option maxRecDepth 40000 in
theorem ck_24 : (tx_p24).all (fun r => okI 24 r.1 r.2) = true := by decide +kernel
set_option maxRecDepth 40000 in
theorem ck_25 : (tx_p25).all (fun r => okI 25 r.1 r.2) = true := by decide +kernel
set_option maxRecDepth 40000 in
theorem ck_26 : (tx_p26).all (fun r => okI 26 r.1 r.2) = true := by decide +kernel
set_option maxRecDepth 40000 in
theorem ck_27 : (tx_p27).all (fun r => okI 27 r.1 r.2) = true := by decide +kernel
set_option maxRecDepth 40000 in
theorem ck_28 : (tx_p28).all (fun r => okI 28 r.1 r.2) = true := by decide +kernel
set_option maxRecDepth 40000 in
theorem ck_29 : (tx_p29).all (fun r => okI 29 r.1 r.2) = true := by decide +kernel
set_option maxRecDepth 40000 in
theorem ck_30 : (tx_p30).all (fun r => okI 30 r.1 r.2) = true := by decide +kernel
set_option maxRecDepth 40000 in
theorem ck_31 : (tx_p31).all (fun r => okI 31 r.1 r.2) = true := by decide +kernel
set_option maxRecDepth 40000 in
theorem ck_32 : (tx_p32).all (fun r => okI 32 r.1 r.2) = true := by decide +kernel
set_option maxRecDepth 40000 in
theorem ck_33 : (tx_p33).all (fun r => okI 33 r.1 r.2) = true := by decide +kernel
set_option maxRecDepth 40000 in
theorem ck_34 : (tx_p34).all (fun r => okI 34 r.1 r.2) = true := by decide +kernel
set_option maxRecDepth 40000 in
theorem ck_35 : (tx_p35).all (fun r => okI 35 r.1 r.2) = true := by decide +kernel
set_option maxRecDepth 40000 in
theorem ck_36 : (tx_p36).all (fun r => okI 36 r.1 r.2) = true := by decide +kernel
set_option maxRecDepth 40000 in
theorem ck_37 : (tx_p37).all (fun r => okI 37 r.1 r.2) = true := by decide +kernel
set_option maxRecDepth 40000 in
theorem ck_38 : (tx_p38).all (fun r => okI 38 r.1 r.2) = true := by decide +kernel
set_option maxRecDepth 40000 in
theorem ck_39 : (tx_p39).all (fun r => okI 39 r.1 r.2) = true := by decide +kernel
set_option maxRecDepth 40000 in
theorem ck_40 : (tx_p40).all (fun r => okI 40 r.1 r.2) = true := by decide +kernel
set_option maxRecDepth 40000 in
theorem ck_41 : (tx_p41).all (fun r => okI 41 r.1 r.2) = true := by decide +kernel
set_option maxRecDepth 40000 in
theorem ck_42 : (tx_p42).all (fun r => okI 42 r.1 r.2) = true := by decide +kernel
set_option maxRecDepth 40000 in
theorem ck_43 : (tx_p43).all (fun r => okI 43 r.1 r.2) = true := by decide +kernel
set_option maxRecDepth 40000 in
theorem ck_44 : (tx_p44).all (fun r => okI 44 r.1 r.2) = true := by decide +kernel
set_option maxRecDepth 40000 in
theorem ck_45 : (tx_p45).all (fun r => okI 45 r.1 r.2) = true := by decide +kernel
set_option maxRecDepth 40000 in
theorem ck_46 : (tx_p46).all (fun r => okI 46 r.1 r.2) = true := by decide +kernel
set_option maxRecDepth 40000 in
theorem ck_47 : (tx_p47).all (fun r => okI 47 r.1 r.2) = true := by decide +kernel
set_option maxRecDepth 40000 in
theorem ck_48 : (tx_p48).all (fun r => okI 48 r.1 r.2) = true := by decide +kernel
set_option maxRecDepth 40000 in
theorem ck_49 : (tx_p49).all (fun r => okI 49 r.1 r.2) = true := by decide +kernel
set_option maxRecDepth 40000 in
theorem ck_50 : (tx_p50).all (fun r => okI 50 r.1 r.2) = true := by decide +kernel
set_option maxRecDepth 40000 in
theorem ck_51_0 : (tx_p51_0).all (fun r => okI 51 r.1 r.2) = true := by decide +kernel
set_option maxRecDepth 40000 in
theorem ck_51_1 : (tx_p51_1).all (fun r => okI 51 r.1 r.2) = true := by decide +kernel
theorem ck_51 : (tx_p51).all (fun r => okI 51 r.1 r.2) = true := all_app ck_51_0 (ck_51_1)
set_option maxRecDepth 40000 in
theorem ck_52 : (tx_p52).all (fun r => okI 52 r.1 r.2) = true := by decide +kernel
set_option maxRecDepth 40000 in
theorem ck_53_0 : (tx_p53_0).all (fun r => okI 53 r.1 r.2) = true := by decide +kernel
set_option maxRecDepth 40000 in
theorem ck_53_1 : (tx_p53_1).all (fun r => okI 53 r.1 r.2) = true := by decide +kernel
theorem ck_53 : (tx_p53).all (fun r => okI 53 r.1 r.2) = true := all_app ck_53_0 (ck_53_1)
set_option maxRecDepth 40000 in
theorem ck_54 : (tx_p54).all (fun r => okI 54 r.1 r.2) = true := by decide +kernel
set_option maxRecDepth 40000 in
theorem ck_55 : (tx_p55).all (fun r => okI 55 r.1 r.2) = true := by decide +kernel
set_option maxRecDepth 40000 in
theorem ck_56 : (tx_p56).all (fun r => okI 56 r.1 r.2) = true := by decide +kernel
set_option maxRecDepth 40000 in
theorem ck_57 : (tx_p57).all (fun r => okI 57 r.1 r.2) = true := by decide +kernel
set_option maxRecDepth 40000 in
theorem ck_58 : (tx_p58).all (fun r => okI 58 r.1 r.2) = true := by decide +kernel
set_option maxRecDepth 40000 in
theorem ck_59 : (tx_p59).all (fun r => okI 59 r.1 r.2) = true := by decide +kernel
