/-! the methods are as their summaries say, 5 -/
set_option maxRecDepth 100000 in
theorem qf104_61 : qck1 yT1 [qs35] qP 20000 [] [qk104_155, qk104_72, qk104_144] qs104 qk104_61 = true := by decide +kernel
set_option maxRecDepth 100000 in
theorem qf104_62 : qck1 yT1 [qs35] qP 20000 [] [qk104_146, qk104_63, qk104_145] qs104 qk104_62 = true := by decide +kernel
set_option maxRecDepth 100000 in
theorem qf104_63 : qck1 yT1 [qs35] qP 20000 [] [qk104_147, qk104_64, qk104_146] qs104 qk104_63 = true := by decide +kernel
set_option maxRecDepth 100000 in
theorem qf104_64 : qck1 yT1 [qs35] qP 20000 [] [qk104_148, qk104_65, qk104_147] qs104 qk104_64 = true := by decide +kernel
set_option maxRecDepth 100000 in
theorem qf104_65 : qck1 yT1 [qs35] qP 20000 [] [qk104_149, qk104_66, qk104_148] qs104 qk104_65 = true := by decide +kernel
set_option maxRecDepth 100000 in
theorem qf104_66 : qck1 yT1 [qs35] qP 20000 [] [qk104_150, qk104_67, qk104_149] qs104 qk104_66 = true := by decide +kernel
set_option maxRecDepth 100000 in
theorem qf104_67 : qck1 yT1 [qs35] qP 20000 [] [qk104_151, qk104_68, qk104_150] qs104 qk104_67 = true := by decide +kernel
set_option maxRecDepth 100000 in
theorem qf104_68 : qck1 yT1 [qs35] qP 20000 [] [qk104_152, qk104_69, qk104_151] qs104 qk104_68 = true := by decide +kernel
set_option maxRecDepth 100000 in
theorem qf104_69 : qck1 yT1 [qs35] qP 20000 [] [qk104_153, qk104_70, qk104_152] qs104 qk104_69 = true := by decide +kernel
set_option maxRecDepth 100000 in
theorem qf104_70 : qck1 yT1 [qs35] qP 20000 [] [qk104_154, qk104_71, qk104_153] qs104 qk104_70 = true := by decide +kernel
set_option maxRecDepth 100000 in
theorem qf104_71 : qck1 yT1 [qs35] qP 20000 [] [qk104_156, qk104_154] qs104 qk104_71 = true := by decide +kernel
set_option maxRecDepth 100000 in
theorem qf104_72 : qck1 yT1 [qs35] qP 20000 [] [qk104_157, qk104_73, qk104_155] qs104 qk104_72 = true := by decide +kernel
set_option maxRecDepth 100000 in
theorem qf104_73 : qck1 yT1 [qs35] qP 20000 [] [qk104_158, qk104_74, qk104_157] qs104 qk104_73 = true := by decide +kernel
set_option maxRecDepth 100000 in
theorem qf104_74 : qck1 yT1 [qs35] qP 20000 [] [qk104_159, qk104_75, qk104_158] qs104 qk104_74 = true := by decide +kernel
set_option maxRecDepth 100000 in
theorem qf104_75 : qck1 yT1 [qs35] qP 20000 [] [qk104_160, qk104_76, qk104_159] qs104 qk104_75 = true := by decide +kernel
set_option maxRecDepth 100000 in
theorem qf104_76 : qck1 yT1 [qs35] qP 20000 [] [qk104_161, qk104_77, qk104_160] qs104 qk104_76 = true := by decide +kernel
set_option maxRecDepth 100000 in
theorem qf104_77 : qck1 yT1 [qs35] qP 20000 [] [qk104_162, qk104_78, qk104_161] qs104 qk104_77 = true := by decide +kernel
set_option maxRecDepth 100000 in
theorem qf104_78 : qck1 yT1 [qs35] qP 20000 [] [qk104_163, qk104_79, qk104_162] qs104 qk104_78 = true := by decide +kernel
set_option maxRecDepth 100000 in
theorem qf104_79 : qck1 yT1 [qs35] qP 20000 [] [qk104_145, qk104_62, qk104_163] qs104 qk104_79 = true := by decide +kernel
set_option maxRecDepth 100000 in
theorem qf104_80 : qck1 yT1 [qs35] qP 20000 [] [] qs104 qk104_80 = true := by decide +kernel
set_option maxRecDepth 100000 in
theorem qf104_81 : qck1 yT1 [qs35] qP 20000 [] [qk104_81] qs104 qk104_81 = true := by decide +kernel
set_option maxRecDepth 100000 in
theorem qf104_82 : qck1 yT1 [qs35] qP 20000 [] [qk104_82] qs104 qk104_82 = true := by decide +kernel
set_option maxRecDepth 100000 in
theorem qf104_83 : qck1 yT1 [qs35] qP 20000 [] [qk104_83] qs104 qk104_83 = true := by decide +kernel
set_option maxRecDepth 100000 in
theorem qf104_84 : qck1 yT1 [qs35] qP 20000 [] [qk104_84] qs104 qk104_84 = true := by decide +kernel
set_option maxRecDepth 100000 in
theorem qf104_85 : qck1 yT1 [qs35] qP 20000 [] [qk104_85] qs104 qk104_85 = true := by decide +kernel
set_option maxRecDepth 100000 in
theorem qf104_86 : qck1 yT1 [qs35] qP 20000 [] [qk104_86] qs104 qk104_86 = true := by decide +kernel
set_option maxRecDepth 100000 in
theorem qf104_87 : qck1 yT1 [qs35] qP 20000 [] [qk104_87] qs104 qk104_87 = true := by decide +kernel
set_option maxRecDepth 100000 in
theorem qf104_88 : qck1 yT1 [qs35] qP 20000 [] [qk104_88] qs104 qk104_88 = true := by decide +kernel
set_option maxRecDepth 100000 in
theorem qf104_89 : qck1 yT1 [qs35] qP 20000 [] [qk104_89] qs104 qk104_89 = true := by decide +kernel
set_option maxRecDepth 100000 in
theorem qf104_90 : qck1 yT1 [qs35] qP 20000 [] [qk104_90] qs104 qk104_90 = true := by decide +kernel
set_option maxRecDepth 100000 in
theorem qf104_91 : qck1 yT1 [qs35] qP 20000 [] [qk104_91] qs104 qk104_91 = true := by decide +kernel
set_option maxRecDepth 100000 in
theorem qf104_92 : qck1 yT1 [qs35] qP 20000 [] [qk104_92] qs104 qk104_92 = true := by decide +kernel
set_option maxRecDepth 100000 in
theorem qf104_93 : qck1 yT1 [qs35] qP 20000 [] [qk104_93] qs104 qk104_93 = true := by decide +kernel
set_option maxRecDepth 100000 in
theorem qf104_94 : qck1 yT1 [qs35] qP 20000 [] [qk104_94] qs104 qk104_94 = true := by decide +kernel
set_option maxRecDepth 100000 in
theorem qf104_95 : qck1 yT1 [qs35] qP 20000 [] [qk104_95] qs104 qk104_95 = true := by decide +kernel
set_option maxRecDepth 100000 in
theorem qf104_96 : qck1 yT1 [qs35] qP 20000 [] [qk104_96] qs104 qk104_96 = true := by decide +kernel
set_option maxRecDepth 100000 in
theorem qf104_97 : qck1 yT1 [qs35] qP 20000 [] [qk104_97] qs104 qk104_97 = true := by decide +kernel
set_option maxRecDepth 100000 in
theorem qf104_98 : qck1 yT1 [qs35] qP 20000 [] [qk104_98] qs104 qk104_98 = true := by decide +kernel
set_option maxRecDepth 100000 in
theorem qf104_99 : qck1 yT1 [qs35] qP 20000 [] [qk104_99] qs104 qk104_99 = true := by decide +kernel
set_option maxRecDepth 100000 in
theorem qf104_100 : qck1 yT1 [qs35] qP 20000 [] [qk104_100] qs104 qk104_100 = true := by decide +kernel
set_option maxRecDepth 100000 in
theorem qf104_101 : qck1 yT1 [qs35] qP 20000 [] [] qs104 qk104_101 = true := by decide +kernel
set_option maxRecDepth 100000 in
theorem qf104_102 : qck1 yT1 [qs35] qP 20000 [] [qk104_102] qs104 qk104_102 = true := by decide +kernel
set_option maxRecDepth 100000 in
theorem qf104_103 : qck1 yT1 [qs35] qP 20000 [] [qk104_103] qs104 qk104_103 = true := by decide +kernel
set_option maxRecDepth 100000 in
theorem qf104_104 : qck1 yT1 [qs35] qP 20000 [] [qk104_104] qs104 qk104_104 = true := by decide +kernel
set_option maxRecDepth 100000 in
theorem qf104_105 : qck1 yT1 [qs35] qP 20000 [] [qk104_105] qs104 qk104_105 = true := by decide +kernel
set_option maxRecDepth 100000 in
theorem qf104_106 : qck1 yT1 [qs35] qP 20000 [] [qk104_106] qs104 qk104_106 = true := by decide +kernel
set_option maxRecDepth 100000 in
theorem qf104_107 : qck1 yT1 [qs35] qP 20000 [] [qk104_107] qs104 qk104_107 = true := by decide +kernel
set_option maxRecDepth 100000 in
theorem qf104_108 : qck1 yT1 [qs35] qP 20000 [] [qk104_108] qs104 qk104_108 = true := by decide +kernel
set_option maxRecDepth 100000 in
theorem qf104_109 : qck1 yT1 [qs35] qP 20000 [] [qk104_109] qs104 qk104_109 = true := by decide +kernel
set_option maxRecDepth 100000 in
theorem qf104_110 : qck1 yT1 [qs35] qP 20000 [] [qk104_110] qs104 qk104_110 = true := by decide +kernel
set_option maxRecDepth 100000 in
theorem qf104_111 : qck1 yT1 [qs35] qP 20000 [] [qk104_111] qs104 qk104_111 = true := by decide +kernel
set_option maxRecDepth 100000 in
theorem qf104_112 : qck1 yT1 [qs35] qP 20000 [] [qk104_112] qs104 qk104_112 = true := by decide +kernel
set_option maxRecDepth 100000 in
theorem qf104_113 : qck1 yT1 [qs35] qP 20000 [] [qk104_113] qs104 qk104_113 = true := by decide +kernel
set_option maxRecDepth 100000 in
theorem qf104_114 : qck1 yT1 [qs35] qP 20000 [] [qk104_114] qs104 qk104_114 = true := by decide +kernel
set_option maxRecDepth 100000 in
theorem qf104_115 : qck1 yT1 [qs35] qP 20000 [] [qk104_115] qs104 qk104_115 = true := by decide +kernel
set_option maxRecDepth 100000 in
theorem qf104_116 : qck1 yT1 [qs35] qP 20000 [] [qk104_116] qs104 qk104_116 = true := by decide +kernel
set_option maxRecDepth 100000 in
theorem qf104_117 : qck1 yT1 [qs35] qP 20000 [] [qk104_117] qs104 qk104_117 = true := by decide +kernel
set_option maxRecDepth 100000 in
theorem qf104_118 : qck1 yT1 [qs35] qP 20000 [] [qk104_118] qs104 qk104_118 = true := by decide +kernel
set_option maxRecDepth 100000 in
theorem qf104_119 : qck1 yT1 [qs35] qP 20000 [] [qk104_119] qs104 qk104_119 = true := by decide +kernel
set_option maxRecDepth 100000 in
theorem qf104_120 : qck1 yT1 [qs35] qP 20000 [] [qk104_120] qs104 qk104_120 = true := by decide +kernel
set_option maxRecDepth 100000 in
theorem qf104_121 : qck1 yT1 [qs35] qP 20000 [] [qk104_121] qs104 qk104_121 = true := by decide +kernel
set_option maxRecDepth 100000 in
theorem qf104_122 : qck1 yT1 [qs35] qP 20000 [] [] qs104 qk104_122 = true := by decide +kernel
set_option maxRecDepth 100000 in
theorem qf104_123 : qck1 yT1 [qs35] qP 20000 [] [qk104_123] qs104 qk104_123 = true := by decide +kernel
set_option maxRecDepth 100000 in
theorem qf104_124 : qck1 yT1 [qs35] qP 20000 [] [qk104_124] qs104 qk104_124 = true := by decide +kernel
set_option maxRecDepth 100000 in
theorem qf104_125 : qck1 yT1 [qs35] qP 20000 [] [qk104_125] qs104 qk104_125 = true := by decide +kernel
set_option maxRecDepth 100000 in
theorem qf104_126 : qck1 yT1 [qs35] qP 20000 [] [qk104_126] qs104 qk104_126 = true := by decide +kernel
set_option maxRecDepth 100000 in
theorem qf104_127 : qck1 yT1 [qs35] qP 20000 [] [qk104_127] qs104 qk104_127 = true := by decide +kernel
set_option maxRecDepth 100000 in
theorem qf104_128 : qck1 yT1 [qs35] qP 20000 [] [qk104_128] qs104 qk104_128 = true := by decide +kernel
set_option maxRecDepth 100000 in
theorem qf104_129 : qck1 yT1 [qs35] qP 20000 [] [qk104_129] qs104 qk104_129 = true := by decide +kernel
set_option maxRecDepth 100000 in
theorem qf104_130 : qck1 yT1 [qs35] qP 20000 [] [qk104_130] qs104 qk104_130 = true := by decide +kernel
set_option maxRecDepth 100000 in
theorem qf104_131 : qck1 yT1 [qs35] qP 20000 [] [qk104_131] qs104 qk104_131 = true := by decide +kernel
set_option maxRecDepth 100000 in
theorem qf104_132 : qck1 yT1 [qs35] qP 20000 [] [qk104_132] qs104 qk104_132 = true := by decide +kernel
set_option maxRecDepth 100000 in
theorem qf104_133 : qck1 yT1 [qs35] qP 20000 [] [qk104_133] qs104 qk104_133 = true := by decide +kernel
set_option maxRecDepth 100000 in
theorem qf104_134 : qck1 yT1 [qs35] qP 20000 [] [qk104_134] qs104 qk104_134 = true := by decide +kernel
set_option maxRecDepth 100000 in
theorem qf104_135 : qck1 yT1 [qs35] qP 20000 [] [qk104_135] qs104 qk104_135 = true := by decide +kernel
set_option maxRecDepth 100000 in
theorem qf104_136 : qck1 yT1 [qs35] qP 20000 [] [qk104_136] qs104 qk104_136 = true := by decide +kernel
set_option maxRecDepth 100000 in
theorem qf104_137 : qck1 yT1 [qs35] qP 20000 [] [qk104_137] qs104 qk104_137 = true := by decide +kernel
set_option maxRecDepth 100000 in
theorem qf104_138 : qck1 yT1 [qs35] qP 20000 [] [qk104_138] qs104 qk104_138 = true := by decide +kernel
set_option maxRecDepth 100000 in
theorem qf104_139 : qck1 yT1 [qs35] qP 20000 [] [qk104_139] qs104 qk104_139 = true := by decide +kernel
set_option maxRecDepth 100000 in
theorem qf104_140 : qck1 yT1 [qs35] qP 20000 [] [qk104_140] qs104 qk104_140 = true := by decide +kernel
set_option maxRecDepth 100000 in
theorem qf104_141 : qck1 yT1 [qs35] qP 20000 [] [qk104_141] qs104 qk104_141 = true := by decide +kernel
set_option maxRecDepth 100000 in
theorem qf104_142 : qck1 yT1 [qs35] qP 20000 [] [qk104_142] qs104 qk104_142 = true := by decide +kernel
set_option maxRecDepth 100000 in
theorem qf104_143 : qck1 yT1 [qs35] qP 20000 [] [] qs104 qk104_143 = true := by decide +kernel
