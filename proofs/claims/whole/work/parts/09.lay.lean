theorem lay_0 : lay 0 = .inl (9, [some 1, some 3, some 13, some 23, some 30, some 33, some 36, some 39, some 43, some 49, some 55, some 73, some 133, some 136, none, none, none]) := rfl
theorem lay_1 : lay 1 = .inl (8, [some 2, none, none, none, none, none, none]) := rfl
theorem lay_2 : lay 2 = .inr (.inl 600) := rfl
theorem lay_3 : lay 3 = .inl (3, [none, some 4, some 5, some 6, some 7, some 8, some 9, some 10, some 11, some 12, none, none, none]) := rfl
theorem lay_4 : lay 4 = .inr (.inl 5) := rfl
theorem lay_5 : lay 5 = .inr (.inl 5) := rfl
theorem lay_6 : lay 6 = .inr (.inl 5) := rfl
theorem lay_7 : lay 7 = .inr (.inl 5) := rfl
theorem lay_8 : lay 8 = .inr (.inl 5) := rfl
theorem lay_9 : lay 9 = .inr (.inl 5) := rfl
theorem lay_10 : lay 10 = .inr (.inl 5) := rfl
theorem lay_11 : lay 11 = .inr (.inl 5) := rfl
theorem lay_12 : lay 12 = .inr (.inl 60) := rfl
theorem lay_13 : lay 13 = .inl (3, [none, some 14, some 15, some 16, some 17, some 18, some 19, some 20, some 21, some 22, none, none, none]) := rfl
theorem lay_14 : lay 14 = .inr (.inl 5) := rfl
theorem lay_15 : lay 15 = .inr (.inl 5) := rfl
theorem lay_16 : lay 16 = .inr (.inl 5) := rfl
theorem lay_17 : lay 17 = .inr (.inl 5) := rfl
theorem lay_18 : lay 18 = .inr (.inl 5) := rfl
theorem lay_19 : lay 19 = .inr (.inl 5) := rfl
theorem lay_20 : lay 20 = .inr (.inl 5) := rfl
theorem lay_21 : lay 21 = .inr (.inl 5) := rfl
theorem lay_22 : lay 22 = .inr (.inl 60) := rfl
theorem lay_23 : lay 23 = .inr (.inr (1, [24, 27])) := rfl
theorem lay_24 : lay 24 = .inl (5, [some 25, none, some 26]) := rfl
theorem lay_25 : lay 25 = .inr (.inl 150) := rfl
theorem lay_26 : lay 26 = .inr (.inl 32) := rfl
theorem lay_27 : lay 27 = .inl (5, [some 28, none, some 29]) := rfl
theorem lay_28 : lay 28 = .inr (.inl 150) := rfl
theorem lay_29 : lay 29 = .inr (.inl 32) := rfl
theorem lay_30 : lay 30 = .inl (5, [some 31, none, some 32]) := rfl
theorem lay_31 : lay 31 = .inr (.inl 150) := rfl
theorem lay_32 : lay 32 = .inr (.inl 32) := rfl
theorem lay_33 : lay 33 = .inl (1, [some 34, some 35, none]) := rfl
theorem lay_34 : lay 34 = .inr (.inl 8) := rfl
theorem lay_35 : lay 35 = .inr (.inl 8) := rfl
theorem lay_36 : lay 36 = .inl (1, [some 37, some 38, none]) := rfl
theorem lay_37 : lay 37 = .inr (.inl 8) := rfl
theorem lay_38 : lay 38 = .inr (.inl 8) := rfl
theorem lay_39 : lay 39 = .inl (7, [some 40, some 41, some 42, none, none, none, none]) := rfl
theorem lay_40 : lay 40 = .inr (.inl 150) := rfl
theorem lay_41 : lay 41 = .inr (.inl 150) := rfl
theorem lay_42 : lay 42 = .inr (.inl 150) := rfl
theorem lay_43 : lay 43 = .inl (6, [some 3, some 23, some 44, some 45, some 46, some 47, some 48, none, none]) := rfl
theorem lay_44 : lay 44 = .inr (.inl 42) := rfl
theorem lay_45 : lay 45 = .inr (.inl 5) := rfl
theorem lay_46 : lay 46 = .inr (.inl 5) := rfl
theorem lay_47 : lay 47 = .inr (.inl 5) := rfl
theorem lay_48 : lay 48 = .inr (.inl 9) := rfl
theorem lay_49 : lay 49 = .inl (6, [some 3, some 23, some 50, some 51, some 52, some 53, some 54, none, none]) := rfl
theorem lay_50 : lay 50 = .inr (.inl 42) := rfl
theorem lay_51 : lay 51 = .inr (.inl 5) := rfl
theorem lay_52 : lay 52 = .inr (.inl 5) := rfl
theorem lay_53 : lay 53 = .inr (.inl 5) := rfl
theorem lay_54 : lay 54 = .inr (.inl 9) := rfl
theorem lay_55 : lay 55 = .inl (2, [some 56, none]) := rfl
theorem lay_56 : lay 56 = .inr (.inr (2, [57, 58, 59, 60, 61, 62, 63, 64, 65, 66, 67, 68, 69, 70, 71, 72])) := rfl
theorem lay_57 : lay 57 = .inr (.inl 42) := rfl
theorem lay_58 : lay 58 = .inr (.inl 42) := rfl
theorem lay_59 : lay 59 = .inr (.inl 42) := rfl
theorem lay_60 : lay 60 = .inr (.inl 42) := rfl
theorem lay_61 : lay 61 = .inr (.inl 42) := rfl
theorem lay_62 : lay 62 = .inr (.inl 42) := rfl
theorem lay_63 : lay 63 = .inr (.inl 42) := rfl
theorem lay_64 : lay 64 = .inr (.inl 42) := rfl
theorem lay_65 : lay 65 = .inr (.inl 42) := rfl
theorem lay_66 : lay 66 = .inr (.inl 42) := rfl
theorem lay_67 : lay 67 = .inr (.inl 42) := rfl
theorem lay_68 : lay 68 = .inr (.inl 42) := rfl
theorem lay_69 : lay 69 = .inr (.inl 42) := rfl
theorem lay_70 : lay 70 = .inr (.inl 42) := rfl
theorem lay_71 : lay 71 = .inr (.inl 42) := rfl
theorem lay_72 : lay 72 = .inr (.inl 42) := rfl
theorem lay_73 : lay 73 = .inl (0, [some 74, some 78, none]) := rfl
theorem lay_74 : lay 74 = .inr (.inr (2, [75, 76, 77])) := rfl
theorem lay_75 : lay 75 = .inr (.inl 42) := rfl
theorem lay_76 : lay 76 = .inr (.inl 42) := rfl
theorem lay_77 : lay 77 = .inr (.inl 42) := rfl
theorem lay_78 : lay 78 = .inr (.inr (0, [79, 97, 115])) := rfl
theorem lay_79 : lay 79 = .inl (2, [some 80, none]) := rfl
theorem lay_80 : lay 80 = .inr (.inr (2, [81, 82, 83, 84, 85, 86, 87, 88, 89, 90, 91, 92, 93, 94, 95, 96])) := rfl
theorem lay_81 : lay 81 = .inr (.inl 42) := rfl
theorem lay_82 : lay 82 = .inr (.inl 42) := rfl
theorem lay_83 : lay 83 = .inr (.inl 42) := rfl
theorem lay_84 : lay 84 = .inr (.inl 42) := rfl
theorem lay_85 : lay 85 = .inr (.inl 42) := rfl
theorem lay_86 : lay 86 = .inr (.inl 42) := rfl
theorem lay_87 : lay 87 = .inr (.inl 42) := rfl
theorem lay_88 : lay 88 = .inr (.inl 42) := rfl
theorem lay_89 : lay 89 = .inr (.inl 42) := rfl
theorem lay_90 : lay 90 = .inr (.inl 42) := rfl
theorem lay_91 : lay 91 = .inr (.inl 42) := rfl
theorem lay_92 : lay 92 = .inr (.inl 42) := rfl
theorem lay_93 : lay 93 = .inr (.inl 42) := rfl
theorem lay_94 : lay 94 = .inr (.inl 42) := rfl
theorem lay_95 : lay 95 = .inr (.inl 42) := rfl
theorem lay_96 : lay 96 = .inr (.inl 42) := rfl
theorem lay_97 : lay 97 = .inl (2, [some 98, none]) := rfl
theorem lay_98 : lay 98 = .inr (.inr (2, [99, 100, 101, 102, 103, 104, 105, 106, 107, 108, 109, 110, 111, 112, 113, 114])) := rfl
theorem lay_99 : lay 99 = .inr (.inl 42) := rfl
theorem lay_100 : lay 100 = .inr (.inl 42) := rfl
theorem lay_101 : lay 101 = .inr (.inl 42) := rfl
theorem lay_102 : lay 102 = .inr (.inl 42) := rfl
theorem lay_103 : lay 103 = .inr (.inl 42) := rfl
theorem lay_104 : lay 104 = .inr (.inl 42) := rfl
theorem lay_105 : lay 105 = .inr (.inl 42) := rfl
theorem lay_106 : lay 106 = .inr (.inl 42) := rfl
theorem lay_107 : lay 107 = .inr (.inl 42) := rfl
theorem lay_108 : lay 108 = .inr (.inl 42) := rfl
theorem lay_109 : lay 109 = .inr (.inl 42) := rfl
theorem lay_110 : lay 110 = .inr (.inl 42) := rfl
theorem lay_111 : lay 111 = .inr (.inl 42) := rfl
theorem lay_112 : lay 112 = .inr (.inl 42) := rfl
theorem lay_113 : lay 113 = .inr (.inl 42) := rfl
theorem lay_114 : lay 114 = .inr (.inl 42) := rfl
theorem lay_115 : lay 115 = .inl (2, [some 116, none]) := rfl
theorem lay_116 : lay 116 = .inr (.inr (2, [117, 118, 119, 120, 121, 122, 123, 124, 125, 126, 127, 128, 129, 130, 131, 132])) := rfl
theorem lay_117 : lay 117 = .inr (.inl 42) := rfl
theorem lay_118 : lay 118 = .inr (.inl 42) := rfl
theorem lay_119 : lay 119 = .inr (.inl 42) := rfl
theorem lay_120 : lay 120 = .inr (.inl 42) := rfl
theorem lay_121 : lay 121 = .inr (.inl 42) := rfl
theorem lay_122 : lay 122 = .inr (.inl 42) := rfl
theorem lay_123 : lay 123 = .inr (.inl 42) := rfl
theorem lay_124 : lay 124 = .inr (.inl 42) := rfl
theorem lay_125 : lay 125 = .inr (.inl 42) := rfl
theorem lay_126 : lay 126 = .inr (.inl 42) := rfl
theorem lay_127 : lay 127 = .inr (.inl 42) := rfl
theorem lay_128 : lay 128 = .inr (.inl 42) := rfl
theorem lay_129 : lay 129 = .inr (.inl 42) := rfl
theorem lay_130 : lay 130 = .inr (.inl 42) := rfl
theorem lay_131 : lay 131 = .inr (.inl 42) := rfl
theorem lay_132 : lay 132 = .inr (.inl 42) := rfl
theorem lay_133 : lay 133 = .inl (4, [some 134, some 135, none, none, none]) := rfl
theorem lay_134 : lay 134 = .inr (.inl 81) := rfl
theorem lay_135 : lay 135 = .inr (.inl 81) := rfl
theorem lay_136 : lay 136 = .inr (.inl 41) := rfl
theorem lay_137 : lay 137 = .inl (10, [none, some 138, none, none, none, none, none, none, none, some 139, some 140, some 141, some 142, some 143, none, none, none, none, none, none, none, some 144, some 145, some 146, some 147, some 148, some 149, none, some 150, some 151, some 152, none, none, none, none, none, none, some 153, some 154, some 155, some 156, some 157, none, some 158, some 159, none, some 160, none, some 161, none, none, some 162, none]) := rfl
theorem lay_138 : lay 138 = .inr (.inl 2) := rfl
theorem lay_139 : lay 139 = .inr (.inl 600) := rfl
theorem lay_140 : lay 140 = .inr (.inl 40) := rfl
theorem lay_141 : lay 141 = .inr (.inl 60) := rfl
theorem lay_142 : lay 142 = .inr (.inl 40) := rfl
theorem lay_143 : lay 143 = .inr (.inl 60) := rfl
theorem lay_144 : lay 144 = .inr (.inl 150) := rfl
theorem lay_145 : lay 145 = .inr (.inl 150) := rfl
theorem lay_146 : lay 146 = .inr (.inl 300) := rfl
theorem lay_147 : lay 147 = .inr (.inl 300) := rfl
theorem lay_148 : lay 148 = .inr (.inl 2) := rfl
theorem lay_149 : lay 149 = .inr (.inl 150) := rfl
theorem lay_150 : lay 150 = .inr (.inl 9) := rfl
theorem lay_151 : lay 151 = .inr (.inl 150) := rfl
theorem lay_152 : lay 152 = .inr (.inl 150) := rfl
theorem lay_153 : lay 153 = .inr (.inl 42) := rfl
theorem lay_154 : lay 154 = .inr (.inl 42) := rfl
theorem lay_155 : lay 155 = .inr (.inl 672) := rfl
theorem lay_156 : lay 156 = .inr (.inl 5) := rfl
theorem lay_157 : lay 157 = .inr (.inl 5) := rfl
theorem lay_158 : lay 158 = .inr (.inl 16) := rfl
theorem lay_159 : lay 159 = .inr (.inl 16) := rfl
theorem lay_160 : lay 160 = .inr (.inl 162) := rfl
theorem lay_161 : lay 161 = .inr (.inl 41) := rfl
theorem lay_162 : lay 162 = .inr (.inl 2145) := rfl
