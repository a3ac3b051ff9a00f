/-! the methods are as their summaries say, 7 -/
set_option maxRecDepth 100000 in
theorem qf104_120 : qck1 yT1 [qs35] qP 20000 [88] [qk104_120] qs104 qk104_120 = true := by decide +kernel
set_option maxRecDepth 100000 in
theorem qf104_121 : qck1 yT1 [qs35] qP 20000 [88] [qk104_121] qs104 qk104_121 = true := by decide +kernel
set_option maxRecDepth 100000 in
theorem qf104_122 : qck1 yT1 [qs35] qP 20000 [88] [qk104_122] qs104 qk104_122 = true := by decide +kernel
set_option maxRecDepth 100000 in
theorem qf104_123 : qck1 yT1 [qs35] qP 20000 [88] [qk104_123] qs104 qk104_123 = true := by decide +kernel
set_option maxRecDepth 100000 in
theorem qf104_124 : qck1 yT1 [qs35] qP 20000 [88] [qk104_124] qs104 qk104_124 = true := by decide +kernel
set_option maxRecDepth 100000 in
theorem qf104_125 : qck1 yT1 [qs35] qP 20000 [88] [] qs104 qk104_125 = true := by decide +kernel
set_option maxRecDepth 100000 in
theorem qf104_126 : qck1 yT1 [qs35] qP 20000 [88] [qk104_126] qs104 qk104_126 = true := by decide +kernel
set_option maxRecDepth 100000 in
theorem qf104_127 : qck1 yT1 [qs35] qP 20000 [88] [qk104_127] qs104 qk104_127 = true := by decide +kernel
set_option maxRecDepth 100000 in
theorem qf104_128 : qck1 yT1 [qs35] qP 20000 [88] [qk104_128] qs104 qk104_128 = true := by decide +kernel
set_option maxRecDepth 100000 in
theorem qf104_129 : qck1 yT1 [qs35] qP 20000 [88] [qk104_129] qs104 qk104_129 = true := by decide +kernel
set_option maxRecDepth 100000 in
theorem qf104_130 : qck1 yT1 [qs35] qP 20000 [88] [qk104_130] qs104 qk104_130 = true := by decide +kernel
set_option maxRecDepth 100000 in
theorem qf104_131 : qck1 yT1 [qs35] qP 20000 [88] [qk104_131] qs104 qk104_131 = true := by decide +kernel
set_option maxRecDepth 100000 in
theorem qf104_132 : qck1 yT1 [qs35] qP 20000 [88] [qk104_132] qs104 qk104_132 = true := by decide +kernel
set_option maxRecDepth 100000 in
theorem qf104_133 : qck1 yT1 [qs35] qP 20000 [88] [qk104_133] qs104 qk104_133 = true := by decide +kernel
set_option maxRecDepth 100000 in
theorem qf104_134 : qck1 yT1 [qs35] qP 20000 [88] [qk104_134] qs104 qk104_134 = true := by decide +kernel
set_option maxRecDepth 100000 in
theorem qf104_135 : qck1 yT1 [qs35] qP 20000 [88] [qk104_135] qs104 qk104_135 = true := by decide +kernel
set_option maxRecDepth 100000 in
theorem qf104_136 : qck1 yT1 [qs35] qP 20000 [88] [qk104_136] qs104 qk104_136 = true := by decide +kernel
set_option maxRecDepth 100000 in
theorem qf104_137 : qck1 yT1 [qs35] qP 20000 [88] [qk104_137] qs104 qk104_137 = true := by decide +kernel
set_option maxRecDepth 100000 in
theorem qf104_138 : qck1 yT1 [qs35] qP 20000 [88] [qk104_138] qs104 qk104_138 = true := by decide +kernel
set_option maxRecDepth 100000 in
theorem qf104_139 : qck1 yT1 [qs35] qP 20000 [88] [qk104_139] qs104 qk104_139 = true := by decide +kernel
set_option maxRecDepth 100000 in
theorem qf104_140 : qck1 yT1 [qs35] qP 20000 [88] [qk104_140] qs104 qk104_140 = true := by decide +kernel
set_option maxRecDepth 100000 in
theorem qf104_141 : qck1 yT1 [qs35] qP 20000 [88] [qk104_141] qs104 qk104_141 = true := by decide +kernel
set_option maxRecDepth 100000 in
theorem qf104_142 : qck1 yT1 [qs35] qP 20000 [88] [qk104_142] qs104 qk104_142 = true := by decide +kernel
set_option maxRecDepth 100000 in
theorem qf104_143 : qck1 yT1 [qs35] qP 20000 [88] [qk104_143] qs104 qk104_143 = true := by decide +kernel
set_option maxRecDepth 100000 in
theorem qf104_144 : qck1 yT1 [qs35] qP 20000 [88] [qk104_144] qs104 qk104_144 = true := by decide +kernel
set_option maxRecDepth 100000 in
theorem qf104_145 : qck1 yT1 [qs35] qP 20000 [88] [qk104_145] qs104 qk104_145 = true := by decide +kernel
set_option maxRecDepth 100000 in
theorem qf104_146 : qck1 yT1 [qs35] qP 20000 [88] [] qs104 qk104_146 = true := by decide +kernel
set_option maxRecDepth 100000 in
theorem qf104_147 : qck1 yT1 [qs35] qP 20000 [88] [qk104_147] qs104 qk104_147 = true := by decide +kernel
set_option maxRecDepth 100000 in
theorem qf104_148 : qck1 yT1 [qs35] qP 20000 [88] [qk104_148] qs104 qk104_148 = true := by decide +kernel
set_option maxRecDepth 100000 in
theorem qf104_149 : qck1 yT1 [qs35] qP 20000 [88] [qk104_149] qs104 qk104_149 = true := by decide +kernel
set_option maxRecDepth 100000 in
theorem qf104_150 : qck1 yT1 [qs35] qP 20000 [88] [qk104_150] qs104 qk104_150 = true := by decide +kernel
set_option maxRecDepth 100000 in
theorem qf104_151 : qck1 yT1 [qs35] qP 20000 [88] [qk104_151] qs104 qk104_151 = true := by decide +kernel
set_option maxRecDepth 100000 in
theorem qf104_152 : qck1 yT1 [qs35] qP 20000 [88] [qk104_152] qs104 qk104_152 = true := by decide +kernel
set_option maxRecDepth 100000 in
theorem qf104_153 : qck1 yT1 [qs35] qP 20000 [88] [qk104_153] qs104 qk104_153 = true := by decide +kernel
set_option maxRecDepth 100000 in
theorem qf104_154 : qck1 yT1 [qs35] qP 20000 [88] [qk104_154] qs104 qk104_154 = true := by decide +kernel
set_option maxRecDepth 100000 in
theorem qf104_155 : qck1 yT1 [qs35] qP 20000 [88] [qk104_155] qs104 qk104_155 = true := by decide +kernel
set_option maxRecDepth 100000 in
theorem qf104_156 : qck1 yT1 [qs35] qP 20000 [88] [qk104_156] qs104 qk104_156 = true := by decide +kernel
set_option maxRecDepth 100000 in
theorem qf104_157 : qck1 yT1 [qs35] qP 20000 [88] [qk104_157] qs104 qk104_157 = true := by decide +kernel
set_option maxRecDepth 100000 in
theorem qf104_158 : qck1 yT1 [qs35] qP 20000 [88] [qk104_158] qs104 qk104_158 = true := by decide +kernel
set_option maxRecDepth 100000 in
theorem qf104_159 : qck1 yT1 [qs35] qP 20000 [88] [qk104_159] qs104 qk104_159 = true := by decide +kernel
set_option maxRecDepth 100000 in
theorem qf104_160 : qck1 yT1 [qs35] qP 20000 [88] [qk104_160] qs104 qk104_160 = true := by decide +kernel
set_option maxRecDepth 100000 in
theorem qf104_161 : qck1 yT1 [qs35] qP 20000 [88] [qk104_161] qs104 qk104_161 = true := by decide +kernel
set_option maxRecDepth 100000 in
theorem qf104_162 : qck1 yT1 [qs35] qP 20000 [88] [qk104_162] qs104 qk104_162 = true := by decide +kernel
set_option maxRecDepth 100000 in
theorem qf104_163 : qck1 yT1 [qs35] qP 20000 [88] [qk104_163] qs104 qk104_163 = true := by decide +kernel
