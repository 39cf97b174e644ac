set_option maxRecDepth 40000 in
theorem ck_159_0 : (tx_p159_0).all (fun r => okI 159 r.1 r.2) = true := by decide +kernel
set_option maxRecDepth 40000 in
theorem ck_159_1 : (tx_p159_1).all (fun r => okI 159 r.1 r.2) = true := by decide +kernel
set_option maxRecDepth 40000 in
theorem ck_159_2 : (tx_p159_2).all (fun r => okI 159 r.1 r.2) = true := by decide +kernel
set_option maxRecDepth 40000 in
theorem ck_159_3 : (tx_p159_3).all (fun r => okI 159 r.1 r.2) = true := by decide +kernel
set_option maxRecDepth 40000 in
theorem ck_159_4 : (tx_p159_4).all (fun r => okI 159 r.1 r.2) = true := by decide +kernel
set_option maxRecDepth 40000 in
theorem ck_159_5 : (tx_p159_5).all (fun r => okI 159 r.1 r.2) = true := by decide +kernel
set_option maxRecDepth 40000 in
theorem ck_159_6 : (tx_p159_6).all (fun r => okI 159 r.1 r.2) = true := by decide +kernel
set_option maxRecDepth 40000 in
theorem ck_159_7 : (tx_p159_7).all (fun r => okI 159 r.1 r.2) = true := by decide +kernel
set_option maxRecDepth 40000 in
theorem ck_159_8 : (tx_p159_8).all (fun r => okI 159 r.1 r.2) = true := by decide +kernel
set_option maxRecDepth 40000 in
theorem ck_159_9 : (tx_p159_9).all (fun r => okI 159 r.1 r.2) = true := by decide +kernel
set_option maxRecDepth 40000 in
theorem ck_159_10 : (tx_p159_10).all (fun r => okI 159 r.1 r.2) = true := by decide +kernel
set_option maxRecDepth 40000 in
theorem ck_159_11 : (tx_p159_11).all (fun r => okI 159 r.1 r.2) = true := by decide +kernel
set_option maxRecDepth 40000 in
theorem ck_159_12 : (tx_p159_12).all (fun r => okI 159 r.1 r.2) = true := by decide +kernel
set_option maxRecDepth 40000 in
theorem ck_159_13 : (tx_p159_13).all (fun r => okI 159 r.1 r.2) = true := by decide +kernel
theorem ck_159 : (tx_p159).all (fun r => okI 159 r.1 r.2) = true := all_app ck_159_0 (all_app ck_159_1 (all_app ck_159_2 (all_app ck_159_3 (all_app ck_159_4 (all_app ck_159_5 (all_app ck_159_6 (all_app ck_159_7 (all_app ck_159_8 (all_app ck_159_9 (all_app ck_159_10 (all_app ck_159_11 (all_app ck_159_12 (ck_159_13)))))))))))))
theorem ck_all : ∀ k, (tx_P k).all (fun r => okI k r.1 r.2) = true := by
  intro k
  by_cases hk : k < 160
  · match k, hk with
    | 0, _ => exact ck_0
    | 1, _ => exact ck_1
    | 2, _ => exact ck_2
    | 3, _ => exact ck_3
    | 4, _ => exact ck_4
    | 5, _ => exact ck_5
    | 6, _ => exact ck_6
    | 7, _ => exact ck_7
    | 8, _ => exact ck_8
    | 9, _ => exact ck_9
    | 10, _ => exact ck_10
    | 11, _ => exact ck_11
    | 12, _ => exact ck_12
    | 13, _ => exact ck_13
    | 14, _ => exact ck_14
    | 15, _ => exact ck_15
    | 16, _ => exact ck_16
    | 17, _ => exact ck_17
    | 18, _ => exact ck_18
    | 19, _ => exact ck_19
    | 20, _ => exact ck_20
    | 21, _ => exact ck_21
    | 22, _ => exact ck_22
    | 23, _ => exact ck_23
    | 24, _ => exact ck_24
    | 25, _ => exact ck_25
    | 26, _ => exact ck_26
    | 27, _ => exact ck_27
    | 28, _ => exact ck_28
    | 29, _ => exact ck_29
    | 30, _ => exact ck_30
    | 31, _ => exact ck_31
    | 32, _ => exact ck_32
    | 33, _ => exact ck_33
    | 34, _ => exact ck_34
    | 35, _ => exact ck_35
    | 36, _ => exact ck_36
    | 37, _ => exact ck_37
    | 38, _ => exact ck_38
    | 39, _ => exact ck_39
    | 40, _ => exact ck_40
    | 41, _ => exact ck_41
    | 42, _ => exact ck_42
    | 43, _ => exact ck_43
    | 44, _ => exact ck_44
    | 45, _ => exact ck_45
    | 46, _ => exact ck_46
    | 47, _ => exact ck_47
    | 48, _ => exact ck_48
    | 49, _ => exact ck_49
    | 50, _ => exact ck_50
    | 51, _ => exact ck_51
    | 52, _ => exact ck_52
    | 53, _ => exact ck_53
    | 54, _ => exact ck_54
    | 55, _ => exact ck_55
    | 56, _ => exact ck_56
    | 57, _ => exact ck_57
    | 58, _ => exact ck_58
    | 59, _ => exact ck_59
    | 60, _ => exact ck_60
    | 61, _ => exact ck_61
    | 62, _ => exact ck_62
    | 63, _ => exact ck_63
    | 64, _ => exact ck_64
    | 65, _ => exact ck_65
    | 66, _ => exact ck_66
    | 67, _ => exact ck_67
    | 68, _ => exact ck_68
    | 69, _ => exact ck_69
    | 70, _ => exact ck_70
    | 71, _ => exact ck_71
    | 72, _ => exact ck_72
    | 73, _ => exact ck_73
    | 74, _ => exact ck_74
    | 75, _ => exact ck_75
    | 76, _ => exact ck_76
    | 77, _ => exact ck_77
    | 78, _ => exact ck_78
    | 79, _ => exact ck_79
    | 80, _ => exact ck_80
    | 81, _ => exact ck_81
    | 82, _ => exact ck_82
    | 83, _ => exact ck_83
    | 84, _ => exact ck_84
    | 85, _ => exact ck_85
    | 86, _ => exact ck_86
    | 87, _ => exact ck_87
    | 88, _ => exact ck_88
    | 89, _ => exact ck_89
    | 90, _ => exact ck_90
    | 91, _ => exact ck_91
    | 92, _ => exact ck_92
    | 93, _ => exact ck_93
    | 94, _ => exact ck_94
    | 95, _ => exact ck_95
    | 96, _ => exact ck_96
    | 97, _ => exact ck_97
    | 98, _ => exact ck_98
    | 99, _ => exact ck_99
    | 100, _ => exact ck_100
    | 101, _ => exact ck_101
    | 102, _ => exact ck_102
    | 103, _ => exact ck_103
    | 104, _ => exact ck_104
    | 105, _ => exact ck_105
    | 106, _ => exact ck_106
    | 107, _ => exact ck_107
    | 108, _ => exact ck_108
    | 109, _ => exact ck_109
    | 110, _ => exact ck_110
    | 111, _ => exact ck_111
    | 112, _ => exact ck_112
    | 113, _ => exact ck_113
    | 114, _ => exact ck_114
    | 115, _ => exact ck_115
    | 116, _ => exact ck_116
    | 117, _ => exact ck_117
    | 118, _ => exact ck_118
    | 119, _ => exact ck_119
    | 120, _ => exact ck_120
    | 121, _ => exact ck_121
    | 122, _ => exact ck_122
    | 123, _ => exact ck_123
    | 124, _ => exact ck_124
    | 125, _ => exact ck_125
    | 126, _ => exact ck_126
    | 127, _ => exact ck_127
    | 128, _ => exact ck_128
    | 129, _ => exact ck_129
    | 130, _ => exact ck_130
    | 131, _ => exact ck_131
    | 132, _ => exact ck_132
    | 133, _ => exact ck_133
    | 134, _ => exact ck_134
    | 135, _ => exact ck_135
    | 136, _ => exact ck_136
    | 137, _ => exact ck_137
    | 138, _ => exact ck_138
    | 139, _ => exact ck_139
    | 140, _ => exact ck_140
    | 141, _ => exact ck_141
    | 142, _ => exact ck_142
    | 143, _ => exact ck_143
    | 144, _ => exact ck_144
    | 145, _ => exact ck_145
    | 146, _ => exact ck_146
    | 147, _ => exact ck_147
    | 148, _ => exact ck_148
    | 149, _ => exact ck_149
    | 150, _ => exact ck_150
    | 151, _ => exact ck_151
    | 152, _ => exact ck_152
    | 153, _ => exact ck_153
    | 154, _ => exact ck_154
    | 155, _ => exact ck_155
    | 156, _ => exact ck_156
    | 157, _ => exact ck_157
    | 158, _ => exact ck_158
    | 159, _ => exact ck_159
    | n + 160, h => exact absurd h (by omega)
  · have h1 : 8 ≤ k / 20 := by omega
    have h2 : tx_P k = [] := by
      unfold tx_P
      match k / 20, h1 with
      | 0, h => exact absurd h (by omega)
      | 1, h => exact absurd h (by omega)
      | 2, h => exact absurd h (by omega)
      | 3, h => exact absurd h (by omega)
      | 4, h => exact absurd h (by omega)
      | 5, h => exact absurd h (by omega)
      | 6, h => exact absurd h (by omega)
      | 7, h => exact absurd h (by omega)
      | n + 8, _ => rfl
    rw [h2]; rfl
theorem lookup_mem {α : Type} {k : Nat} {v : α} : ∀ {l : List (Nat × α)}, l.lookup k = some v → (k, v) ∈ l
  | [], h => by simp at h
  | (a, b) :: t, h => by
    rw [List.lookup_cons] at h
    by_cases e : k = a
    · subst e
      simp at h
      subst h
      exact List.mem_cons_self
    · rw [show (k == a) = false from beq_eq_false_iff_ne.mpr e] at h
      exact List.mem_cons_of_mem _ (lookup_mem h)
theorem fetch_ok {mid pc : Nat} {i : Nat × Nat × Nat × Int} (h : fetch mid pc = some i) : okI mid pc i = true := List.all_eq_true.mp (ck_all mid) (pc, i) (lookup_mem h)
