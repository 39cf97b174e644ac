set_option maxRecDepth 40000 in
theorem ck_60 : (tx_p60).all (fun r => okI 60 r.1 r.2) = true := by decide +kernel
set_option maxRecDepth 40000 in
theorem ck_61 : (tx_p61).all (fun r => okI 61 r.1 r.2) = true := by decide +kernel
set_option maxRecDepth 40000 in
theorem ck_62 : (tx_p62).all (fun r => okI 62 r.1 r.2) = true := by decide +kernel
set_option maxRecDepth 40000 in
theorem ck_63 : (tx_p63).all (fun r => okI 63 r.1 r.2) = true := by decide +kernel
set_option maxRecDepth 40000 in
theorem ck_64 : (tx_p64).all (fun r => okI 64 r.1 r.2) = true := by decide +kernel
set_option maxRecDepth 40000 in
theorem ck_65 : (tx_p65).all (fun r => okI 65 r.1 r.2) = true := by decide +kernel
set_option maxRecDepth 40000 in
theorem ck_66 : (tx_p66).all (fun r => okI 66 r.1 r.2) = true := by decide +kernel
set_option maxRecDepth 40000 in
theorem ck_67 : (tx_p67).all (fun r => okI 67 r.1 r.2) = true := by decide +kernel
set_option maxRecDepth 40000 in
theorem ck_68 : (tx_p68).all (fun r => okI 68 r.1 r.2) = true := by decide +kernel
set_option maxRecDepth 40000 in
theorem ck_69 : (tx_p69).all (fun r => okI 69 r.1 r.2) = true := by decide +kernel
set_option maxRecDepth 40000 in
theorem ck_70 : (tx_p70).all (fun r => okI 70 r.1 r.2) = true := by decide +kernel
set_option maxRecDepth 40000 in
theorem ck_71 : (tx_p71).all (fun r => okI 71 r.1 r.2) = true := by decide +kernel
set_option maxRecDepth 40000 in
theorem ck_72 : (tx_p72).all (fun r => okI 72 r.1 r.2) = true := by decide +kernel
set_option maxRecDepth 40000 in
theorem ck_73 : (tx_p73).all (fun r => okI 73 r.1 r.2) = true := by decide +kernel
set_option maxRecDepth 40000 in
theorem ck_74_0 : (tx_p74_0).all (fun r => okI 74 r.1 r.2) = true := by decide +kernel
set_option maxRecDepth 40000 in
theorem ck_74_1 : (tx_p74_1).all (fun r => okI 74 r.1 r.2) = true := by decide +kernel
set_option maxRecDepth 40000 in
theorem ck_74_2 : (tx_p74_2).all (fun r => okI 74 r.1 r.2) = true := by decide +kernel
theorem ck_74 : (tx_p74).all (fun r => okI 74 r.1 r.2) = true := all_app ck_74_0 (all_app ck_74_1 (ck_74_2))
set_option maxRecDepth 40000 in
theorem ck_75 : (tx_p75).all (fun r => okI 75 r.1 r.2) = true := by decide +kernel
set_option maxRecDepth 40000 in
theorem ck_76_0 : (tx_p76_0).all (fun r => okI 76 r.1 r.2) = true := by decide +kernel
set_option maxRecDepth 40000 in
theorem ck_76_1 : (tx_p76_1).all (fun r => okI 76 r.1 r.2) = true := by decide +kernel
theorem ck_76 : (tx_p76).all (fun r => okI 76 r.1 r.2) = true := all_app ck_76_0 (ck_76_1)
set_option maxRecDepth 40000 in
theorem ck_77 : (tx_p77).all (fun r => okI 77 r.1 r.2) = true := by decide +kernel
set_option maxRecDepth 40000 in
theorem ck_78 : (tx_p78).all (fun r => okI 78 r.1 r.2) = true := by decide +kernel
set_option maxRecDepth 40000 in
theorem ck_79 : (tx_p79).all (fun r => okI 79 r.1 r.2) = true := by decide +kernel
set_option maxRecDepth 40000 in
theorem ck_80 : (tx_p80).all (fun r => okI 80 r.1 r.2) = true := by decide +kernel
set_option maxRecDepth 40000 in
theorem ck_81 : (tx_p81).all (fun r => okI 81 r.1 r.2) = true := by decide +kernel
set_option maxRecDepth 40000 in
theorem ck_82 : (tx_p82).all (fun r => okI 82 r.1 r.2) = true := by decide +kernel
set_option maxRecDepth 40000 in
theorem ck_83 : (tx_p83).all (fun r => okI 83 r.1 r.2) = true := by decide +kernel
set_option maxRecDepth 40000 in
theorem ck_84 : (tx_p84).all (fun r => okI 84 r.1 r.2) = true := by decide +kernel
set_option maxRecDepth 40000 in
theorem ck_85 : (tx_p85).all (fun r => okI 85 r.1 r.2) = true := by decide +kernel
set_option maxRecDepth 40000 in
theorem ck_86 : (tx_p86).all (fun r => okI 86 r.1 r.2) = true := by decide +kernel
set_option maxRecDepth 40000 in
theorem ck_87 : (tx_p87).all (fun r => okI 87 r.1 r.2) = true := by decide +kernel
set_option maxRecDepth 40000 in
theorem ck_88 : (tx_p88).all (fun r => okI 88 r.1 r.2) = true := by decide +kernel
set_option maxRecDepth 40000 in
theorem ck_89 : (tx_p89).all (fun r => okI 89 r.1 r.2) = true := by decide +kernel
set_option maxRecDepth 40000 in
theorem ck_90 : (tx_p90).all (fun r => okI 90 r.1 r.2) = true := by decide +kernel
set_option maxRecDepth 40000 in
theorem ck_91 : (tx_p91).all (fun r => okI 91 r.1 r.2) = true := by decide +kernel
set_option maxRecDepth 40000 in
theorem ck_92 : (tx_p92).all (fun r => okI 92 r.1 r.2) = true := by decide +kernel
set_option maxRecDepth 40000 in
theorem ck_93 : (tx_p93).all (fun r => okI 93 r.1 r.2) = true := by decide +kernel
set_option maxRecDepth 40000 in
theorem ck_94 : (tx_p94).all (fun r => okI 94 r.1 r.2) = true := by decide +kernel
set_option maxRecDepth 40000 in
theorem ck_95 : (tx_p95).all (fun r => okI 95 r.1 r.2) = true := by decide +kernel
set_option maxRecDepth 40000 in
theorem ck_96 : (tx_p96).all (fun r => okI 96 r.1 r.2) = true := by decide +kernel
set_option maxRecDepth 40000 in
theorem ck_97 : (tx_p97).all (fun r => okI 97 r.1 r.2) = true := by decide +kernel
set_option maxRecDepth 40000 in
theorem ck_98 : (tx_p98).all (fun r => okI 98 r.1 r.2) = true := by decide +kernel
set_option maxRecDepth 40000 in
theorem ck_99 : (tx_p99).all (fun r => okI 99 r.1 r.2) = true := by decide +kernel
set_option maxRecDepth 40000 in
theorem ck_100 : (tx_p100).all (fun r => okI 100 r.1 r.2) = true := by decide +kernel
set_option maxRecDepth 40000 in
theorem ck_101 : (tx_p101).all (fun r => okI 101 r.1 r.2) = true := by decide +kernel
set_option maxRecDepth 40000 in
theorem ck_102 : (tx_p102).all (fun r => okI 102 r.1 r.2) = true := by decide +kernel
set_option maxRecDepth 40000 in
theorem ck_103_0 : (tx_p103_0).all (fun r => okI 103 r.1 r.2) = true := by decide +kernel
set_option maxRecDepth 40000 in
theorem ck_103_1 : (tx_p103_1).all (fun r => okI 103 r.1 r.2) = true := by decide +kernel
theorem ck_103 : (tx_p103).all (fun r => okI 103 r.1 r.2) = true := all_app ck_103_0 (ck_103_1)
set_option maxRecDepth 40000 in
theorem ck_104 : (tx_p104).all (fun r => okI 104 r.1 r.2) = true := by decide +kernel
