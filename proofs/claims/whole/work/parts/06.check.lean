/-! a row is what decode says, with the words that it needs -/
def dq (mid pc : Nat) (i : Instr) (n : Nat) : Bool := decide (decode (bO mid) pc = .ok (i, n))
def okC (k : Nat) : Jvm.ClassFile.Cond := match k with
  | 0 => .eq
  | 1 => .ne
  | 2 => .lt
  | 3 => .ge
  | 4 => .gt
  | _ => .le
def rmI (mid k : Nat) : Bool := decide (fO k + 1 ≤ fO mid ∧ 8 + (lO k + 11) + qO k ≤ qO mid)
def okI (mid pc : Nat) : Nat × Nat × Nat × Int → Bool := fun i => match i with
  | (op, a, b, c) => match op with
    | 0 => dq mid pc (.iconst c) 1
    | 1 => dq mid pc (.bipush c) 2 && decide ((Int8.ofInt c).toInt32 = Int32.ofInt c)
    | 2 => dq mid pc (.sipush c) 3 && decide ((Int16.ofInt c).toInt32 = Int32.ofInt c)
    | 3 => dq mid pc (.ldc a) 2 && decide ((oO mid, a, Int32.ofInt c) ∈ tx_I)
    | 4 => dq mid pc (.ldc2_w a) 3 && decide ((oO mid, a, Int64.ofInt c) ∈ tx_J)
    | 5 => dq mid pc (.lconst (Fin.ofNat 2 a)) 1 && decide (a < 2)
    | 6 => dq mid pc (.iload_n (Fin.ofNat 4 a)) 1 && decide (a < 4)
    | 7 => dq mid pc (.iload a) 2
    | 8 => dq mid pc (.aload_n (Fin.ofNat 4 a)) 1 && decide (a < 4)
    | 9 => dq mid pc (.istore_n (Fin.ofNat 4 a)) 1 && decide (a < 4 ∧ a < lO mid)
    | 10 => dq mid pc (.istore a) 2 && decide (a < lO mid)
    | 11 => dq mid pc (.astore_n (Fin.ofNat 4 a)) 1 && decide (a < 4 ∧ a < lO mid)
    | 12 => dq mid pc (.iinc a c) 3 && decide (a < lO mid)
    | 13 => dq mid pc .iadd 1
    | 14 => dq mid pc .isub 1
    | 15 => dq mid pc .imul 1
    | 16 => dq mid pc .idiv 1
    | 17 => dq mid pc .irem 1
    | 18 => dq mid pc .ineg 1
    | 19 => dq mid pc .iand 1
    | 20 => dq mid pc .ior 1
    | 21 => dq mid pc .ishl 1
    | 22 => dq mid pc .ishr 1
    | 23 => dq mid pc .iushr 1
    | 24 => dq mid pc .ladd 1
    | 25 => dq mid pc .lcmp 1
    | 26 => dq mid pc .dup 1
    | 27 => dq mid pc .dup2 1
    | 28 => dq mid pc .pop 1
    | 29 => dq mid pc (.ifCond (okC a) c) 3 && decide ((pc : Int) + c = (b : Int) ∧ a < 6)
    | 30 => dq mid pc (.if_icmp (okC a) c) 3 && decide ((pc : Int) + c = (b : Int) ∧ a < 6)
    | 31 => dq mid pc (.goto c) 3 && decide ((pc : Int) + c = (b : Int))
    | 32 => dq mid pc (.ifnull c) 3
    | 33 => dq mid pc (.ifnonnull c) 3 && decide ((pc : Int) + c = (b : Int))
    | 34 => dq mid pc (.tableswitch (tx_swT a).1 (tx_swT a).2.1 (tx_swT a).2.2.1 (tx_swT a).2.2.2.1) (tx_swT a).2.2.2.2 && decide (tx_sw a = ((tx_swT a).1, swP (tx_swT a).2.1 (tx_swT a).2.2.2.1.toList) ∧ (tx_swT a).2.2.1 + 1 = (tx_swT a).2.1 + ((tx_swT a).2.2.2.1.toList.length : Int)) && ((tx_swT a).1 :: (tx_swT a).2.2.2.1.toList).all (fun o => decide (0 ≤ (pc : Int) + o))
    | 35 => dq mid pc (.lookupswitch (tx_swL a).1 (tx_swL a).2.1) (tx_swL a).2.2 && decide (tx_sw a = ((tx_swL a).1, (tx_swL a).2.1.toList)) && ((tx_swL a).2.1.toList.zip ((tx_swL a).2.1.toList.drop 1)).all (fun q => decide (q.1.1 < q.2.1)) && ((tx_swL a).1 :: (tx_swL a).2.1.toList.map (·.2)).all (fun o => decide (0 ≤ (pc : Int) + o))
    | 36 => dq mid pc (.getfield a) 3 && decide ((oO mid, a, b / 64, b % 64) ∈ tx_F)
    | 37 => dq mid pc (.putfield a) 3 && decide ((oO mid, a, b / 64, b % 64) ∈ tx_F) && (decide ((tx_T (b / 64) (b % 64)).2.2.2 = false) || decide ((yO mid).name = "<init>" ∧ (tx_T (b / 64) (b % 64)).1 = tx_R (oO mid)))
    | 38 => dq mid pc .iaload 1
    | 39 => dq mid pc .iastore 1
    | 40 => dq mid pc .baload 1
    | 41 => dq mid pc .bastore 1
    | 42 => dq mid pc .aaload 1
    | 43 => dq mid pc .aastore 1
    | 44 => dq mid pc .arraylength 1
    | 45 => if a = 0 then dq mid pc (.newarray .int) 2 else (dq mid pc (.newarray .boolean) 2 && decide (a = 1))
    | 46 => dq mid pc (.anewarray a) 3 && decide ((oO mid, a, 0) ∈ tx_K)
    | 47 => dq mid pc (.new a) 3 && decide ((oO mid, a, b) ∈ tx_K ∧ b < 8)
    | 48 => dq mid pc (.invokespecial a) 3 && decide ((oO mid, a) ∈ tx_O ∧ 1 ≤ fO mid ∧ 20 ≤ qO mid)
    | 49 => dq mid pc (.invokestatic a) 3 && decide ((oO mid, a, b) ∈ tx_A ∧ 1 ≤ fO mid ∧ 21 ≤ qO mid)
    | 50 => dq mid pc (.ldc_w a) 3 && decide ((oO mid, a, Int32.ofInt c) ∈ tx_I)
    | 60 => dq mid pc (.invokevirtual a) 3 && decide ((oO mid, a, b, 0) ∈ tx_C ∧ kO b = 1) && rmI mid b
    | 61 => dq mid pc (.invokespecial a) 3 && decide ((oO mid, a, b, c.toNat) ∈ tx_C ∧ kO b = 2 ∧ c.toNat < 2) && rmI mid b
    | 62 => dq mid pc (.invokestatic a) 3 && decide ((oO mid, a, b, c.toNat) ∈ tx_C ∧ kO b = 0 ∧ c.toNat < 2) && rmI mid b
    | 63 => dq mid pc .ireturn 1
    | 64 => dq mid pc .lreturn 1
    | 65 => dq mid pc .return_ 1
    | _ => false
set_option maxRecDepth 40000 in
theorem ck_0 : (tx_p0).all (fun r => okI 0 r.1 r.2) = true := by decide +kernel
set_option maxRecDepth 40000 in
theorem ck_1 : (tx_p1).all (fun r => okI 1 r.1 r.2) = true := by decide +kernel
set_option maxRecDepth 40000 in
theorem ck_2 : (tx_p2).all (fun r => okI 2 r.1 r.2) = true := by decide +kernel
set_option maxRecDepth 40000 in
theorem ck_3 : (tx_p3).all (fun r => okI 3 r.1 r.2) = true := by decide +kernel
set_option maxRecDepth 40000 in
theorem ck_4 : (tx_p4).all (fun r => okI 4 r.1 r.2) = true := by decide +kernel
set_option maxRecDepth 40000 in
theorem ck_5 : (tx_p5).all (fun r => okI 5 r.1 r.2) = true := by decide +kernel
set_option maxRecDepth 40000 in
theorem ck_6 : (tx_p6).all (fun r => okI 6 r.1 r.2) = true := by decide +kernel
set_option maxRecDepth 40000 in
theorem ck_7 : (tx_p7).all (fun r => okI 7 r.1 r.2) = true := by decide +kernel
set_option maxRecDepth 40000 in
theorem ck_8 : (tx_p8).all (fun r => okI 8 r.1 r.2) = true := by decide +kernel
set_option maxRecDepth 40000 in
theorem ck_9 : (tx_p9).all (fun r => okI 9 r.1 r.2) = true := by decide +kernel
set_option maxRecDepth 40000 in
theorem ck_10 : (tx_p10).all (fun r => okI 10 r.1 r.2) = true := by decide +kernel
set_option maxRecDepth 40000 in
theorem ck_11 : (tx_p11).all (fun r => okI 11 r.1 r.2) = true := by decide +kernel
set_option maxRecDepth 40000 in
theorem ck_12 : (tx_p12).all (fun r => okI 12 r.1 r.2) = true := by decide +kernel
set_option maxRecDepth 40000 in
theorem ck_13 : (tx_p13).all (fun r => okI 13 r.1 r.2) = true := by decide +kernel
set_option maxRecDepth 40000 in
theorem ck_14 : (tx_p14).all (fun r => okI 14 r.1 r.2) = true := by decide +kernel
set_option maxRecDepth 40000 in
theorem ck_15 : (tx_p15).all (fun r => okI 15 r.1 r.2) = true := by decide +kernel
set_option maxRecDepth 40000 in
theorem ck_16 : (tx_p16).all (fun r => okI 16 r.1 r.2) = true := by decide +kernel
set_option maxRecDepth 40000 in
theorem ck_17 : (tx_p17).all (fun r => okI 17 r.1 r.2) = true := by decide +kernel
set_option maxRecDepth 40000 in
theorem ck_18 : (tx_p18).all (fun r => okI 18 r.1 r.2) = true := by decide +kernel
set_option maxRecDepth 40000 in
theorem ck_19 : (tx_p19).all (fun r => okI 19 r.1 r.2) = true := by decide +kernel
set_option maxRecDepth 40000 in
theorem ck_20 : (tx_p20).all (fun r => okI 20 r.1 r.2) = true := by decide +kernel
set_option maxRecDepth 40000 in
theorem ck_21 : (tx_p21).all (fun r => okI 21 r.1 r.2) = true := by decide +kernel
set_option maxRecDepth 40000 in
theorem ck_22 : (tx_p22).all (fun r => okI 22 r.1 r.2) = true := by decide +kernel
set_option maxRecDepth 40000 in
theorem ck_23 : (tx_p23).all (fun r => okI 23 r.1 r.2) = true := by decide +kernel
set_option maxRecDepth 40000 in
theorem ck_24 : (tx_p24).all (fun r => okI 24 r.1 r.2) = true := by decide +kernel
set_option maxRecDepth 40000 in
theorem ck_25 : (tx_p25).all (fun r => okI 25 r.1 r.2) = true := by decide +kernel
set_option maxRecDepth 40000 in
theorem ck_26 : (tx_p26).all (fun r => okI 26 r.1 r.2) = true := by decide +kernel
set_option maxRecDepth 40000 in
theorem ck_27 : (tx_p27).all (fun r => okI 27 r.1 r.2) = true := by decide +kernel
set_option maxRecDepth 40000 in
theorem ck_28 : (tx_p28).all (fun r => okI 28 r.1 r.2) = true := by decide +kernel
set_option maxRecDepth 40000 in
theorem ck_29 : (tx_p29).all (fun r => okI 29 r.1 r.2) = true := by decide +kernel
set_option maxRecDepth 40000 in
theorem ck_30 : (tx_p30).all (fun r => okI 30 r.1 r.2) = true := by decide +kernel
set_option maxRecDepth 40000 in
theorem ck_31 : (tx_p31).all (fun r => okI 31 r.1 r.2) = true := by decide +kernel
set_option maxRecDepth 40000 in
theorem ck_32 : (tx_p32).all (fun r => okI 32 r.1 r.2) = true := by decide +kernel
set_option maxRecDepth 40000 in
theorem ck_33 : (tx_p33).all (fun r => okI 33 r.1 r.2) = true := by decide +kernel
set_option maxRecDepth 40000 in
theorem ck_34 : (tx_p34).all (fun r => okI 34 r.1 r.2) = true := by decide +kernel
set_option maxRecDepth 40000 in
theorem ck_35 : (tx_p35).all (fun r => okI 35 r.1 r.2) = true := by decide +kernel
set_option maxRecDepth 40000 in
theorem ck_36 : (tx_p36).all (fun r => okI 36 r.1 r.2) = true := by decide +kernel
set_option maxRecDepth 40000 in
theorem ck_37 : (tx_p37).all (fun r => okI 37 r.1 r.2) = true := by decide +kernel
set_option maxRecDepth 40000 in
theorem ck_38 : (tx_p38).all (fun r => okI 38 r.1 r.2) = true := by decide +kernel
set_option maxRecDepth 40000 in
theorem ck_39 : (tx_p39).all (fun r => okI 39 r.1 r.2) = true := by decide +kernel
set_option maxRecDepth 40000 in
theorem ck_40 : (tx_p40).all (fun r => okI 40 r.1 r.2) = true := by decide +kernel
set_option maxRecDepth 40000 in
theorem ck_41 : (tx_p41).all (fun r => okI 41 r.1 r.2) = true := by decide +kernel
set_option maxRecDepth 40000 in
theorem ck_42 : (tx_p42).all (fun r => okI 42 r.1 r.2) = true := by decide +kernel
set_option maxRecDepth 40000 in
theorem ck_43 : (tx_p43).all (fun r => okI 43 r.1 r.2) = true := by decide +kernel
set_option maxRecDepth 40000 in
theorem ck_44 : (tx_p44).all (fun r => okI 44 r.1 r.2) = true := by decide +kernel
set_option maxRecDepth 40000 in
theorem ck_45 : (tx_p45).all (fun r => okI 45 r.1 r.2) = true := by decide +kernel
set_option maxRecDepth 40000 in
theorem ck_46 : (tx_p46).all (fun r => okI 46 r.1 r.2) = true := by decide +kernel
set_option maxRecDepth 40000 in
theorem ck_47 : (tx_p47).all (fun r => okI 47 r.1 r.2) = true := by decide +kernel
set_option maxRecDepth 40000 in
theorem ck_48 : (tx_p48).all (fun r => okI 48 r.1 r.2) = true := by decide +kernel
set_option maxRecDepth 40000 in
theorem ck_49 : (tx_p49).all (fun r => okI 49 r.1 r.2) = true := by decide +kernel
set_option maxRecDepth 40000 in
theorem ck_50 : (tx_p50).all (fun r => okI 50 r.1 r.2) = true := by decide +kernel
set_option maxRecDepth 40000 in
theorem ck_51 : (tx_p51).all (fun r => okI 51 r.1 r.2) = true := by decide +kernel
set_option maxRecDepth 40000 in
theorem ck_52 : (tx_p52).all (fun r => okI 52 r.1 r.2) = true := by decide +kernel
set_option maxRecDepth 40000 in
theorem ck_53 : (tx_p53).all (fun r => okI 53 r.1 r.2) = true := by decide +kernel
set_option maxRecDepth 40000 in
theorem ck_54 : (tx_p54).all (fun r => okI 54 r.1 r.2) = true := by decide +kernel
set_option maxRecDepth 40000 in
theorem ck_55 : (tx_p55).all (fun r => okI 55 r.1 r.2) = true := by decide +kernel
set_option maxRecDepth 40000 in
theorem ck_56 : (tx_p56).all (fun r => okI 56 r.1 r.2) = true := by decide +kernel
set_option maxRecDepth 40000 in
theorem ck_57 : (tx_p57).all (fun r => okI 57 r.1 r.2) = true := by decide +kernel
set_option maxRecDepth 40000 in
theorem ck_58 : (tx_p58).all (fun r => okI 58 r.1 r.2) = true := by decide +kernel
set_option maxRecDepth 40000 in
theorem ck_59 : (tx_p59).all (fun r => okI 59 r.1 r.2) = true := by decide +kernel
set_option maxRecDepth 40000 in
theorem ck_60 : (tx_p60).all (fun r => okI 60 r.1 r.2) = true := by decide +kernel
set_option maxRecDepth 40000 in
theorem ck_61 : (tx_p61).all (fun r => okI 61 r.1 r.2) = true := by decide +kernel
set_option maxRecDepth 40000 in
theorem ck_62 : (tx_p62).all (fun r => okI 62 r.1 r.2) = true := by decide +kernel
set_option maxRecDepth 40000 in
theorem ck_63 : (tx_p63).all (fun r => okI 63 r.1 r.2) = true := by decide +kernel
set_option maxRecDepth 40000 in
theorem ck_64 : (tx_p64).all (fun r => okI 64 r.1 r.2) = true := by decide +kernel
set_option maxRecDepth 40000 in
theorem ck_65 : (tx_p65).all (fun r => okI 65 r.1 r.2) = true := by decide +kernel
set_option maxRecDepth 40000 in
theorem ck_66 : (tx_p66).all (fun r => okI 66 r.1 r.2) = true := by decide +kernel
set_option maxRecDepth 40000 in
theorem ck_67 : (tx_p67).all (fun r => okI 67 r.1 r.2) = true := by decide +kernel
set_option maxRecDepth 40000 in
theorem ck_68 : (tx_p68).all (fun r => okI 68 r.1 r.2) = true := by decide +kernel
set_option maxRecDepth 40000 in
theorem ck_69 : (tx_p69).all (fun r => okI 69 r.1 r.2) = true := by decide +kernel
set_option maxRecDepth 40000 in
theorem ck_70 : (tx_p70).all (fun r => okI 70 r.1 r.2) = true := by decide +kernel
set_option maxRecDepth 40000 in
theorem ck_71 : (tx_p71).all (fun r => okI 71 r.1 r.2) = true := by decide +kernel
set_option maxRecDepth 40000 in
theorem ck_72 : (tx_p72).all (fun r => okI 72 r.1 r.2) = true := by decide +kernel
set_option maxRecDepth 40000 in
theorem ck_73 : (tx_p73).all (fun r => okI 73 r.1 r.2) = true := by decide +kernel
set_option maxRecDepth 40000 in
theorem ck_74 : (tx_p74).all (fun r => okI 74 r.1 r.2) = true := by decide +kernel
set_option maxRecDepth 40000 in
theorem ck_75 : (tx_p75).all (fun r => okI 75 r.1 r.2) = true := by decide +kernel
set_option maxRecDepth 40000 in
theorem ck_76 : (tx_p76).all (fun r => okI 76 r.1 r.2) = true := by decide +kernel
set_option maxRecDepth 40000 in
theorem ck_77 : (tx_p77).all (fun r => okI 77 r.1 r.2) = true := by decide +kernel
set_option maxRecDepth 40000 in
theorem ck_78 : (tx_p78).all (fun r => okI 78 r.1 r.2) = true := by decide +kernel
set_option maxRecDepth 40000 in
theorem ck_79 : (tx_p79).all (fun r => okI 79 r.1 r.2) = true := by decide +kernel
set_option maxRecDepth 40000 in
theorem ck_80 : (tx_p80).all (fun r => okI 80 r.1 r.2) = true := by decide +kernel
set_option maxRecDepth 40000 in
theorem ck_81 : (tx_p81).all (fun r => okI 81 r.1 r.2) = true := by decide +kernel
set_option maxRecDepth 40000 in
theorem ck_82 : (tx_p82).all (fun r => okI 82 r.1 r.2) = true := by decide +kernel
set_option maxRecDepth 40000 in
theorem ck_83 : (tx_p83).all (fun r => okI 83 r.1 r.2) = true := by decide +kernel
set_option maxRecDepth 40000 in
theorem ck_84 : (tx_p84).all (fun r => okI 84 r.1 r.2) = true := by decide +kernel
set_option maxRecDepth 40000 in
theorem ck_85 : (tx_p85).all (fun r => okI 85 r.1 r.2) = true := by decide +kernel
set_option maxRecDepth 40000 in
theorem ck_86 : (tx_p86).all (fun r => okI 86 r.1 r.2) = true := by decide +kernel
set_option maxRecDepth 40000 in
theorem ck_87 : (tx_p87).all (fun r => okI 87 r.1 r.2) = true := by decide +kernel
set_option maxRecDepth 40000 in
theorem ck_88 : (tx_p88).all (fun r => okI 88 r.1 r.2) = true := by decide +kernel
set_option maxRecDepth 40000 in
theorem ck_89 : (tx_p89).all (fun r => okI 89 r.1 r.2) = true := by decide +kernel
set_option maxRecDepth 40000 in
theorem ck_90 : (tx_p90).all (fun r => okI 90 r.1 r.2) = true := by decide +kernel
set_option maxRecDepth 40000 in
theorem ck_91 : (tx_p91).all (fun r => okI 91 r.1 r.2) = true := by decide +kernel
set_option maxRecDepth 40000 in
theorem ck_92 : (tx_p92).all (fun r => okI 92 r.1 r.2) = true := by decide +kernel
set_option maxRecDepth 40000 in
theorem ck_93 : (tx_p93).all (fun r => okI 93 r.1 r.2) = true := by decide +kernel
set_option maxRecDepth 40000 in
theorem ck_94 : (tx_p94).all (fun r => okI 94 r.1 r.2) = true := by decide +kernel
set_option maxRecDepth 40000 in
theorem ck_95 : (tx_p95).all (fun r => okI 95 r.1 r.2) = true := by decide +kernel
set_option maxRecDepth 40000 in
theorem ck_96 : (tx_p96).all (fun r => okI 96 r.1 r.2) = true := by decide +kernel
set_option maxRecDepth 40000 in
theorem ck_97 : (tx_p97).all (fun r => okI 97 r.1 r.2) = true := by decide +kernel
set_option maxRecDepth 40000 in
theorem ck_98 : (tx_p98).all (fun r => okI 98 r.1 r.2) = true := by decide +kernel
set_option maxRecDepth 40000 in
theorem ck_99 : (tx_p99).all (fun r => okI 99 r.1 r.2) = true := by decide +kernel
set_option maxRecDepth 40000 in
theorem ck_100 : (tx_p100).all (fun r => okI 100 r.1 r.2) = true := by decide +kernel
set_option maxRecDepth 40000 in
theorem ck_101 : (tx_p101).all (fun r => okI 101 r.1 r.2) = true := by decide +kernel
set_option maxRecDepth 40000 in
theorem ck_102 : (tx_p102).all (fun r => okI 102 r.1 r.2) = true := by decide +kernel
set_option maxRecDepth 40000 in
theorem ck_103 : (tx_p103).all (fun r => okI 103 r.1 r.2) = true := by decide +kernel
set_option maxRecDepth 40000 in
theorem ck_104 : (tx_p104).all (fun r => okI 104 r.1 r.2) = true := by decide +kernel
set_option maxRecDepth 40000 in
theorem ck_105 : (tx_p105).all (fun r => okI 105 r.1 r.2) = true := by decide +kernel
set_option maxRecDepth 40000 in
theorem ck_106 : (tx_p106).all (fun r => okI 106 r.1 r.2) = true := by decide +kernel
set_option maxRecDepth 40000 in
theorem ck_107 : (tx_p107).all (fun r => okI 107 r.1 r.2) = true := by decide +kernel
set_option maxRecDepth 40000 in
theorem ck_108 : (tx_p108).all (fun r => okI 108 r.1 r.2) = true := by decide +kernel
set_option maxRecDepth 40000 in
theorem ck_109 : (tx_p109).all (fun r => okI 109 r.1 r.2) = true := by decide +kernel
set_option maxRecDepth 40000 in
theorem ck_110 : (tx_p110).all (fun r => okI 110 r.1 r.2) = true := by decide +kernel
set_option maxRecDepth 40000 in
theorem ck_111 : (tx_p111).all (fun r => okI 111 r.1 r.2) = true := by decide +kernel
set_option maxRecDepth 40000 in
theorem ck_112 : (tx_p112).all (fun r => okI 112 r.1 r.2) = true := by decide +kernel
set_option maxRecDepth 40000 in
theorem ck_113 : (tx_p113).all (fun r => okI 113 r.1 r.2) = true := by decide +kernel
set_option maxRecDepth 40000 in
theorem ck_114 : (tx_p114).all (fun r => okI 114 r.1 r.2) = true := by decide +kernel
set_option maxRecDepth 40000 in
theorem ck_115 : (tx_p115).all (fun r => okI 115 r.1 r.2) = true := by decide +kernel
set_option maxRecDepth 40000 in
theorem ck_116 : (tx_p116).all (fun r => okI 116 r.1 r.2) = true := by decide +kernel
set_option maxRecDepth 40000 in
theorem ck_117 : (tx_p117).all (fun r => okI 117 r.1 r.2) = true := by decide +kernel
set_option maxRecDepth 40000 in
theorem ck_118 : (tx_p118).all (fun r => okI 118 r.1 r.2) = true := by decide +kernel
set_option maxRecDepth 40000 in
theorem ck_119 : (tx_p119).all (fun r => okI 119 r.1 r.2) = true := by decide +kernel
set_option maxRecDepth 40000 in
theorem ck_120 : (tx_p120).all (fun r => okI 120 r.1 r.2) = true := by decide +kernel
set_option maxRecDepth 40000 in
theorem ck_121 : (tx_p121).all (fun r => okI 121 r.1 r.2) = true := by decide +kernel
set_option maxRecDepth 40000 in
theorem ck_122 : (tx_p122).all (fun r => okI 122 r.1 r.2) = true := by decide +kernel
set_option maxRecDepth 40000 in
theorem ck_123 : (tx_p123).all (fun r => okI 123 r.1 r.2) = true := by decide +kernel
set_option maxRecDepth 40000 in
theorem ck_124 : (tx_p124).all (fun r => okI 124 r.1 r.2) = true := by decide +kernel
set_option maxRecDepth 40000 in
theorem ck_125 : (tx_p125).all (fun r => okI 125 r.1 r.2) = true := by decide +kernel
set_option maxRecDepth 40000 in
theorem ck_126 : (tx_p126).all (fun r => okI 126 r.1 r.2) = true := by decide +kernel
set_option maxRecDepth 40000 in
theorem ck_127 : (tx_p127).all (fun r => okI 127 r.1 r.2) = true := by decide +kernel
set_option maxRecDepth 40000 in
theorem ck_128 : (tx_p128).all (fun r => okI 128 r.1 r.2) = true := by decide +kernel
set_option maxRecDepth 40000 in
theorem ck_129 : (tx_p129).all (fun r => okI 129 r.1 r.2) = true := by decide +kernel
set_option maxRecDepth 40000 in
theorem ck_130 : (tx_p130).all (fun r => okI 130 r.1 r.2) = true := by decide +kernel
set_option maxRecDepth 40000 in
theorem ck_131 : (tx_p131).all (fun r => okI 131 r.1 r.2) = true := by decide +kernel
set_option maxRecDepth 40000 in
theorem ck_132 : (tx_p132).all (fun r => okI 132 r.1 r.2) = true := by decide +kernel
set_option maxRecDepth 40000 in
theorem ck_133 : (tx_p133).all (fun r => okI 133 r.1 r.2) = true := by decide +kernel
set_option maxRecDepth 40000 in
theorem ck_134 : (tx_p134).all (fun r => okI 134 r.1 r.2) = true := by decide +kernel
set_option maxRecDepth 40000 in
theorem ck_135 : (tx_p135).all (fun r => okI 135 r.1 r.2) = true := by decide +kernel
set_option maxRecDepth 40000 in
theorem ck_136 : (tx_p136).all (fun r => okI 136 r.1 r.2) = true := by decide +kernel
set_option maxRecDepth 40000 in
theorem ck_137 : (tx_p137).all (fun r => okI 137 r.1 r.2) = true := by decide +kernel
set_option maxRecDepth 40000 in
theorem ck_138 : (tx_p138).all (fun r => okI 138 r.1 r.2) = true := by decide +kernel
set_option maxRecDepth 40000 in
theorem ck_139 : (tx_p139).all (fun r => okI 139 r.1 r.2) = true := by decide +kernel
set_option maxRecDepth 40000 in
theorem ck_140 : (tx_p140).all (fun r => okI 140 r.1 r.2) = true := by decide +kernel
set_option maxRecDepth 40000 in
theorem ck_141 : (tx_p141).all (fun r => okI 141 r.1 r.2) = true := by decide +kernel
set_option maxRecDepth 40000 in
theorem ck_142 : (tx_p142).all (fun r => okI 142 r.1 r.2) = true := by decide +kernel
set_option maxRecDepth 40000 in
theorem ck_143 : (tx_p143).all (fun r => okI 143 r.1 r.2) = true := by decide +kernel
set_option maxRecDepth 40000 in
theorem ck_144 : (tx_p144).all (fun r => okI 144 r.1 r.2) = true := by decide +kernel
set_option maxRecDepth 40000 in
theorem ck_145 : (tx_p145).all (fun r => okI 145 r.1 r.2) = true := by decide +kernel
set_option maxRecDepth 40000 in
theorem ck_146 : (tx_p146).all (fun r => okI 146 r.1 r.2) = true := by decide +kernel
set_option maxRecDepth 40000 in
theorem ck_147 : (tx_p147).all (fun r => okI 147 r.1 r.2) = true := by decide +kernel
set_option maxRecDepth 40000 in
theorem ck_148 : (tx_p148).all (fun r => okI 148 r.1 r.2) = true := by decide +kernel
set_option maxRecDepth 40000 in
theorem ck_149 : (tx_p149).all (fun r => okI 149 r.1 r.2) = true := by decide +kernel
set_option maxRecDepth 40000 in
theorem ck_150 : (tx_p150).all (fun r => okI 150 r.1 r.2) = true := by decide +kernel
set_option maxRecDepth 40000 in
theorem ck_151 : (tx_p151).all (fun r => okI 151 r.1 r.2) = true := by decide +kernel
set_option maxRecDepth 40000 in
theorem ck_152 : (tx_p152).all (fun r => okI 152 r.1 r.2) = true := by decide +kernel
set_option maxRecDepth 40000 in
theorem ck_153 : (tx_p153).all (fun r => okI 153 r.1 r.2) = true := by decide +kernel
set_option maxRecDepth 40000 in
theorem ck_154 : (tx_p154).all (fun r => okI 154 r.1 r.2) = true := by decide +kernel
set_option maxRecDepth 40000 in
theorem ck_155 : (tx_p155).all (fun r => okI 155 r.1 r.2) = true := by decide +kernel
set_option maxRecDepth 40000 in
theorem ck_156 : (tx_p156).all (fun r => okI 156 r.1 r.2) = true := by decide +kernel
set_option maxRecDepth 40000 in
theorem ck_157 : (tx_p157).all (fun r => okI 157 r.1 r.2) = true := by decide +kernel
set_option maxRecDepth 40000 in
theorem ck_158 : (tx_p158).all (fun r => okI 158 r.1 r.2) = true := by decide +kernel
set_option maxRecDepth 40000 in
theorem ck_159 : (tx_p159).all (fun r => okI 159 r.1 r.2) = true := by decide +kernel
theorem ck_all : ∀ k, (tx_P k).all (fun r => okI k r.1 r.2) = true := by
  intro k
  by_cases hk : k < 160
  · match k, hk with
    | 0, _ => exact ck_0
    | 1, _ => exact ck_1
    | 2, _ => exact ck_2
    | 3, _ => exact ck_3
    | 4, _ => exact ck_4
    | 5, _ => exact ck_5
    | 6, _ => exact ck_6
    | 7, _ => exact ck_7
    | 8, _ => exact ck_8
    | 9, _ => exact ck_9
    | 10, _ => exact ck_10
    | 11, _ => exact ck_11
    | 12, _ => exact ck_12
    | 13, _ => exact ck_13
    | 14, _ => exact ck_14
    | 15, _ => exact ck_15
    | 16, _ => exact ck_16
    | 17, _ => exact ck_17
    | 18, _ => exact ck_18
    | 19, _ => exact ck_19
    | 20, _ => exact ck_20
    | 21, _ => exact ck_21
    | 22, _ => exact ck_22
    | 23, _ => exact ck_23
    | 24, _ => exact ck_24
    | 25, _ => exact ck_25
    | 26, _ => exact ck_26
    | 27, _ => exact ck_27
    | 28, _ => exact ck_28
    | 29, _ => exact ck_29
    | 30, _ => exact ck_30
    | 31, _ => exact ck_31
    | 32, _ => exact ck_32
    | 33, _ => exact ck_33
    | 34, _ => exact ck_34
    | 35, _ => exact ck_35
    | 36, _ => exact ck_36
    | 37, _ => exact ck_37
    | 38, _ => exact ck_38
    | 39, _ => exact ck_39
    | 40, _ => exact ck_40
    | 41, _ => exact ck_41
    | 42, _ => exact ck_42
    | 43, _ => exact ck_43
    | 44, _ => exact ck_44
    | 45, _ => exact ck_45
    | 46, _ => exact ck_46
    | 47, _ => exact ck_47
    | 48, _ => exact ck_48
    | 49, _ => exact ck_49
    | 50, _ => exact ck_50
    | 51, _ => exact ck_51
    | 52, _ => exact ck_52
    | 53, _ => exact ck_53
    | 54, _ => exact ck_54
    | 55, _ => exact ck_55
    | 56, _ => exact ck_56
    | 57, _ => exact ck_57
    | 58, _ => exact ck_58
    | 59, _ => exact ck_59
    | 60, _ => exact ck_60
    | 61, _ => exact ck_61
    | 62, _ => exact ck_62
    | 63, _ => exact ck_63
    | 64, _ => exact ck_64
    | 65, _ => exact ck_65
    | 66, _ => exact ck_66
    | 67, _ => exact ck_67
    | 68, _ => exact ck_68
    | 69, _ => exact ck_69
    | 70, _ => exact ck_70
    | 71, _ => exact ck_71
    | 72, _ => exact ck_72
    | 73, _ => exact ck_73
    | 74, _ => exact ck_74
    | 75, _ => exact ck_75
    | 76, _ => exact ck_76
    | 77, _ => exact ck_77
    | 78, _ => exact ck_78
    | 79, _ => exact ck_79
    | 80, _ => exact ck_80
    | 81, _ => exact ck_81
    | 82, _ => exact ck_82
    | 83, _ => exact ck_83
    | 84, _ => exact ck_84
    | 85, _ => exact ck_85
    | 86, _ => exact ck_86
    | 87, _ => exact ck_87
    | 88, _ => exact ck_88
    | 89, _ => exact ck_89
    | 90, _ => exact ck_90
    | 91, _ => exact ck_91
    | 92, _ => exact ck_92
    | 93, _ => exact ck_93
    | 94, _ => exact ck_94
    | 95, _ => exact ck_95
    | 96, _ => exact ck_96
    | 97, _ => exact ck_97
    | 98, _ => exact ck_98
    | 99, _ => exact ck_99
    | 100, _ => exact ck_100
    | 101, _ => exact ck_101
    | 102, _ => exact ck_102
    | 103, _ => exact ck_103
    | 104, _ => exact ck_104
    | 105, _ => exact ck_105
    | 106, _ => exact ck_106
    | 107, _ => exact ck_107
    | 108, _ => exact ck_108
    | 109, _ => exact ck_109
    | 110, _ => exact ck_110
    | 111, _ => exact ck_111
    | 112, _ => exact ck_112
    | 113, _ => exact ck_113
    | 114, _ => exact ck_114
    | 115, _ => exact ck_115
    | 116, _ => exact ck_116
    | 117, _ => exact ck_117
    | 118, _ => exact ck_118
    | 119, _ => exact ck_119
    | 120, _ => exact ck_120
    | 121, _ => exact ck_121
    | 122, _ => exact ck_122
    | 123, _ => exact ck_123
    | 124, _ => exact ck_124
    | 125, _ => exact ck_125
    | 126, _ => exact ck_126
    | 127, _ => exact ck_127
    | 128, _ => exact ck_128
    | 129, _ => exact ck_129
    | 130, _ => exact ck_130
    | 131, _ => exact ck_131
    | 132, _ => exact ck_132
    | 133, _ => exact ck_133
    | 134, _ => exact ck_134
    | 135, _ => exact ck_135
    | 136, _ => exact ck_136
    | 137, _ => exact ck_137
    | 138, _ => exact ck_138
    | 139, _ => exact ck_139
    | 140, _ => exact ck_140
    | 141, _ => exact ck_141
    | 142, _ => exact ck_142
    | 143, _ => exact ck_143
    | 144, _ => exact ck_144
    | 145, _ => exact ck_145
    | 146, _ => exact ck_146
    | 147, _ => exact ck_147
    | 148, _ => exact ck_148
    | 149, _ => exact ck_149
    | 150, _ => exact ck_150
    | 151, _ => exact ck_151
    | 152, _ => exact ck_152
    | 153, _ => exact ck_153
    | 154, _ => exact ck_154
    | 155, _ => exact ck_155
    | 156, _ => exact ck_156
    | 157, _ => exact ck_157
    | 158, _ => exact ck_158
    | 159, _ => exact ck_159
    | n + 160, h => exact absurd h (by omega)
  · have h1 : 8 ≤ k / 20 := by omega
    have h2 : tx_P k = [] := by
      unfold tx_P
      match k / 20, h1 with
      | 0, h => exact absurd h (by omega)
      | 1, h => exact absurd h (by omega)
      | 2, h => exact absurd h (by omega)
      | 3, h => exact absurd h (by omega)
      | 4, h => exact absurd h (by omega)
      | 5, h => exact absurd h (by omega)
      | 6, h => exact absurd h (by omega)
      | 7, h => exact absurd h (by omega)
      | n + 8, _ => rfl
    rw [h2]; rfl
theorem lookup_mem {α : Type} {k : Nat} {v : α} : ∀ {l : List (Nat × α)}, l.lookup k = some v → (k, v) ∈ l
  | [], h => by simp at h
  | (a, b) :: t, h => by
    rw [List.lookup_cons] at h
    by_cases e : k = a
    · subst e
      simp at h
      subst h
      exact List.mem_cons_self
    · rw [show (k == a) = false from beq_eq_false_iff_ne.mpr e] at h
      exact List.mem_cons_of_mem _ (lookup_mem h)
theorem fetch_ok {mid pc : Nat} {i : Nat × Nat × Nat × Int} (h : fetch mid pc = some i) : okI mid pc i = true := List.all_eq_true.mp (ck_all mid) (pc, i) (lookup_mem h)
