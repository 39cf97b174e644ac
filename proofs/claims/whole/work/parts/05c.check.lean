set_option maxRecDepth 40000 in
theorem ck_105 : (tx_p105).all (fun r => okI 105 r.1 r.2) = true := by decide +kernel
set_option maxRecDepth 40000 in
theorem ck_106 : (tx_p106).all (fun r => okI 106 r.1 r.2) = true := by decide +kernel
set_option maxRecDepth 40000 in
theorem ck_107 : (tx_p107).all (fun r => okI 107 r.1 r.2) = true := by decide +kernel
set_option maxRecDepth 40000 in
theorem ck_108 : (tx_p108).all (fun r => okI 108 r.1 r.2) = true := by decide +kernel
set_option maxRecDepth 40000 in
theorem ck_109_0 : (tx_p109_0).all (fun r => okI 109 r.1 r.2) = true := by decide +kernel
set_option maxRecDepth 40000 in
theorem ck_109_1 : (tx_p109_1).all (fun r => okI 109 r.1 r.2) = true := by decide +kernel
set_option maxRecDepth 40000 in
theorem ck_109_2 : (tx_p109_2).all (fun r => okI 109 r.1 r.2) = true := by decide +kernel
set_option maxRecDepth 40000 in
theorem ck_109_3 : (tx_p109_3).all (fun r => okI 109 r.1 r.2) = true := by decide +kernel
theorem ck_109 : (tx_p109).all (fun r => okI 109 r.1 r.2) = true := all_app ck_109_0 (all_app ck_109_1 (all_app ck_109_2 (ck_109_3)))
set_option maxRecDepth 40000 in
theorem ck_110 : (tx_p110).all (fun r => okI 110 r.1 r.2) = true := by decide +kernel
set_option maxRecDepth 40000 in
theorem ck_111 : (tx_p111).all (fun r => okI 111 r.1 r.2) = true := by decide +kernel
set_option maxRecDepth 40000 in
theorem ck_112 : (tx_p112).all (fun r => okI 112 r.1 r.2) = true := by decide +kernel
set_option maxRecDepth 40000 in
theorem ck_113 : (tx_p113).all (fun r => okI 113 r.1 r.2) = true := by decide +kernel
set_option maxRecDepth 40000 in
theorem ck_114 : (tx_p114).all (fun r => okI 114 r.1 r.2) = true := by decide +kernel
set_option maxRecDepth 40000 in
theorem ck_115_0 : (tx_p115_0).all (fun r => okI 115 r.1 r.2) = true := by decide +kernel
set_option maxRecDepth 40000 in
theorem ck_115_1 : (tx_p115_1).all (fun r => okI 115 r.1 r.2) = true := by decide +kernel
set_option maxRecDepth 40000 in
theorem ck_115_2 : (tx_p115_2).all (fun r => okI 115 r.1 r.2) = true := by decide +kernel
theorem ck_115 : (tx_p115).all (fun r => okI 115 r.1 r.2) = true := all_app ck_115_0 (all_app ck_115_1 (ck_115_2))
set_option maxRecDepth 40000 in
theorem ck_116_0 : (tx_p116_0).all (fun r => okI 116 r.1 r.2) = true := by decide +kernel
set_option maxRecDepth 40000 in
theorem ck_116_1 : (tx_p116_1).all (fun r => okI 116 r.1 r.2) = true := by decide +kernel
theorem ck_116 : (tx_p116).all (fun r => okI 116 r.1 r.2) = true := all_app ck_116_0 (ck_116_1)
set_option maxRecDepth 40000 in
theorem ck_117_0 : (tx_p117_0).all (fun r => okI 117 r.1 r.2) = true := by decide +kernel
set_option maxRecDepth 40000 in
theorem ck_117_1 : (tx_p117_1).all (fun r => okI 117 r.1 r.2) = true := by decide +kernel
set_option maxRecDepth 40000 in
theorem ck_117_2 : (tx_p117_2).all (fun r => okI 117 r.1 r.2) = true := by decide +kernel
set_option maxRecDepth 40000 in
theorem ck_117_3 : (tx_p117_3).all (fun r => okI 117 r.1 r.2) = true := by decide +kernel
theorem ck_117 : (tx_p117).all (fun r => okI 117 r.1 r.2) = true := all_app ck_117_0 (all_app ck_117_1 (all_app ck_117_2 (ck_117_3)))
set_option maxRecDepth 40000 in
theorem ck_118 : (tx_p118).all (fun r => okI 118 r.1 r.2) = true := by decide +kernel
set_option maxRecDepth 40000 in
theorem ck_119 : (tx_p119).all (fun r => okI 119 r.1 r.2) = true := by decide +kernel
set_option maxRecDepth 40000 in
theorem ck_120 : (tx_p120).all (fun r => okI 120 r.1 r.2) = true := by decide +kernel
set_option maxRecDepth 40000 in
theorem ck_121 : (tx_p121).all (fun r => okI 121 r.1 r.2) = true := by decide +kernel
set_option maxRecDepth 40000 in
theorem ck_122 : (tx_p122).all (fun r => okI 122 r.1 r.2) = true := by decide +kernel
set_option maxRecDepth 40000 in
theorem ck_123 : (tx_p123).all (fun r => okI 123 r.1 r.2) = true := by decide +kernel
set_option maxRecDepth 40000 in
theorem ck_124 : (tx_p124).all (fun r => okI 124 r.1 r.2) = true := by decide +kernel
set_option maxRecDepth 40000 in
theorem ck_125 : (tx_p125).all (fun r => okI 125 r.1 r.2) = true := by decide +kernel
set_option maxRecDepth 40000 in
theorem ck_126 : (tx_p126).all (fun r => okI 126 r.1 r.2) = true := by decide +kernel
set_option maxRecDepth 40000 in
theorem ck_127 : (tx_p127).all (fun r => okI 127 r.1 r.2) = true := by decide +kernel
set_option maxRecDepth 40000 in
theorem ck_128 : (tx_p128).all (fun r => okI 128 r.1 r.2) = true := by decide +kernel
set_option maxRecDepth 40000 in
theorem ck_129 : (tx_p129).all (fun r => okI 129 r.1 r.2) = true := by decide +kernel
set_option maxRecDepth 40000 in
theorem ck_130 : (tx_p130).all (fun r => okI 130 r.1 r.2) = true := by decide +kernel
set_option maxRecDepth 40000 in
theorem ck_131_0 : (tx_p131_0).all (fun r => okI 131 r.1 r.2) = true := by decide +kernel
set_option maxRecDepth 40000 in
theorem ck_131_1 : (tx_p131_1).all (fun r => okI 131 r.1 r.2) = true := by decide +kernel
theorem ck_131 : (tx_p131).all (fun r => okI 131 r.1 r.2) = true := all_app ck_131_0 (ck_131_1)
set_option maxRecDepth 40000 in
theorem ck_132 : (tx_p132).all (fun r => okI 132 r.1 r.2) = true := by decide +kernel
set_option maxRecDepth 40000 in
theorem ck_133 : (tx_p133).all (fun r => okI 133 r.1 r.2) = true := by decide +kernel
set_option maxRecDepth 40000 in
theorem ck_134 : (tx_p134).all (fun r => okI 134 r.1 r.2) = true := by decide +kernel
set_option maxRecDepth 40000 in
theorem ck_135_0 : (tx_p135_0).all (fun r => okI 135 r.1 r.2) = true := by decide +kernel
set_option maxRecDepth 40000 in
theorem ck_135_1 : (tx_p135_1).all (fun r => okI 135 r.1 r.2) = true := by decide +kernel
theorem ck_135 : (tx_p135).all (fun r => okI 135 r.1 r.2) = true := all_app ck_135_0 (ck_135_1)
set_option maxRecDepth 40000 in
theorem ck_136_0 : (tx_p136_0).all (fun r => okI 136 r.1 r.2) = true := by decide +kernel
set_option maxRecDepth 40000 in
theorem ck_136_1 : (tx_p136_1).all (fun r => okI 136 r.1 r.2) = true := by decide +kernel
set_option maxRecDepth 40000 in
theorem ck_136_2 : (tx_p136_2).all (fun r => okI 136 r.1 r.2) = true := by decide +kernel
theorem ck_136 : (tx_p136).all (fun r => okI 136 r.1 r.2) = true := all_app ck_136_0 (all_app ck_136_1 (ck_136_2))
set_option maxRecDepth 40000 in
theorem ck_137 : (tx_p137).all (fun r => okI 137 r.1 r.2) = true := by decide +kernel
set_option maxRecDepth 40000 in
theorem ck_138 : (tx_p138).all (fun r => okI 138 r.1 r.2) = true := by decide +kernel
set_option maxRecDepth 40000 in
theorem ck_139 : (tx_p139).all (fun r => okI 139 r.1 r.2) = true := by decide +kernel
set_option maxRecDepth 40000 in
theorem ck_140_0 : (tx_p140_0).all (fun r => okI 140 r.1 r.2) = true := by decide +kernel
set_option maxRecDepth 40000 in
theorem ck_140_1 : (tx_p140_1).all (fun r => okI 140 r.1 r.2) = true := by decide +kernel
set_option maxRecDepth 40000 in
theorem ck_140_2 : (tx_p140_2).all (fun r => okI 140 r.1 r.2) = true := by decide +kernel
theorem ck_140 : (tx_p140).all (fun r => okI 140 r.1 r.2) = true := all_app ck_140_0 (all_app ck_140_1 (ck_140_2))
set_option maxRecDepth 40000 in
theorem ck_141 : (tx_p141).all (fun r => okI 141 r.1 r.2) = true := by decide +kernel
set_option maxRecDepth 40000 in
theorem ck_142 : (tx_p142).all (fun r => okI 142 r.1 r.2) = true := by decide +kernel
set_option maxRecDepth 40000 in
theorem ck_143 : (tx_p143).all (fun r => okI 143 r.1 r.2) = true := by decide +kernel
set_option maxRecDepth 40000 in
theorem ck_144 : (tx_p144).all (fun r => okI 144 r.1 r.2) = true := by decide +kernel
set_option maxRecDepth 40000 in
theorem ck_145 : (tx_p145).all (fun r => okI 145 r.1 r.2) = true := by decide +kernel
set_option maxRecDepth 40000 in
theorem ck_146 : (tx_p146).all (fun r => okI 146 r.1 r.2) = true := by decide +kernel
set_option maxRecDepth 40000 in
theorem ck_147_0 : (tx_p147_0).all (fun r => okI 147 r.1 r.2) = true := by decide +kernel
set_option maxRecDepth 40000 in
theorem ck_147_1 : (tx_p147_1).all (fun r => okI 147 r.1 r.2) = true := by decide +kernel
set_option maxRecDepth 40000 in
theorem ck_147_2 : (tx_p147_2).all (fun r => okI 147 r.1 r.2) = true := by decide +kernel
theorem ck_147 : (tx_p147).all (fun r => okI 147 r.1 r.2) = true := all_app ck_147_0 (all_app ck_147_1 (ck_147_2))
set_option maxRecDepth 40000 in
theorem ck_148_0 : (tx_p148_0).all (fun r => okI 148 r.1 r.2) = true := by decide +kernel
set_option maxRecDepth 40000 in
theorem ck_148_1 : (tx_p148_1).all (fun r => okI 148 r.1 r.2) = true := by decide +kernel
set_option maxRecDepth 40000 in
theorem ck_148_2 : (tx_p148_2).all (fun r => okI 148 r.1 r.2) = true := by decide +kernel
theorem ck_148 : (tx_p148).all (fun r => okI 148 r.1 r.2) = true := all_app ck_148_0 (all_app ck_148_1 (ck_148_2))
set_option maxRecDepth 40000 in
theorem ck_149_0 : (tx_p149_0).all (fun r => okI 149 r.1 r.2) = true := by decide +kernel
set_option maxRecDepth 40000 in
theorem ck_149_1 : (tx_p149_1).all (fun r => okI 149 r.1 r.2) = true := by decide +kernel
set_option maxRecDepth 40000 in
theorem ck_149_2 : (tx_p149_2).all (fun r => okI 149 r.1 r.2) = true := by decide +kernel
set_option maxRecDepth 40000 in
theorem ck_149_3 : (tx_p149_3).all (fun r => okI 149 r.1 r.2) = true := by decide +kernel
set_option maxRecDepth 40000 in
theorem ck_149_4 : (tx_p149_4).all (fun r => okI 149 r.1 r.2) = true := by decide +kernel
theorem ck_149 : (tx_p149).all (fun r => okI 149 r.1 r.2) = true := all_app ck_149_0 (all_app ck_149_1 (all_app ck_149_2 (all_app ck_149_3 (ck_149_4))))
set_option maxRecDepth 40000 in
theorem ck_150 : (tx_p150).all (fun r => okI 150 r.1 r.2) = true := by decide +kernel
set_option maxRecDepth 40000 in
theorem ck_151 : (tx_p151).all (fun r => okI 151 r.1 r.2) = true := by decide +kernel
set_option maxRecDepth 40000 in
theorem ck_152_0 : (tx_p152_0).all (fun r => okI 152 r.1 r.2) = true := by decide +kernel
set_option maxRecDepth 40000 in
theorem ck_152_1 : (tx_p152_1).all (fun r => okI 152 r.1 r.2) = true := by decide +kernel
theorem ck_152 : (tx_p152).all (fun r => okI 152 r.1 r.2) = true := all_app ck_152_0 (ck_152_1)
set_option maxRecDepth 40000 in
theorem ck_153_0 : (tx_p153_0).all (fun r => okI 153 r.1 r.2) = true := by decide +kernel
set_option maxRecDepth 40000 in
theorem ck_153_1 : (tx_p153_1).all (fun r => okI 153 r.1 r.2) = true := by decide +kernel
set_option maxRecDepth 40000 in
theorem ck_153_2 : (tx_p153_2).all (fun r => okI 153 r.1 r.2) = true := by decide +kernel
theorem ck_153 : (tx_p153).all (fun r => okI 153 r.1 r.2) = true := all_app ck_153_0 (all_app ck_153_1 (ck_153_2))
set_option maxRecDepth 40000 in
theorem ck_154 : (tx_p154).all (fun r => okI 154 r.1 r.2) = true := by decide +kernel
set_option maxRecDepth 40000 in
theorem ck_155 : (tx_p155).all (fun r => okI 155 r.1 r.2) = true := by decide +kernel
set_option maxRecDepth 40000 in
theorem ck_156 : (tx_p156).all (fun r => okI 156 r.1 r.2) = true := by decide +kernel
set_option maxRecDepth 40000 in
theorem ck_157 : (tx_p157).all (fun r => okI 157 r.1 r.2) = true := by decide +kernel
set_option maxRecDepth 40000 in
theorem ck_158 : (tx_p158).all (fun r => okI 158 r.1 r.2) = true := by decide +kernel
