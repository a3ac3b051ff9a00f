/-! the methods are as their summaries say, 5 -/
set_option maxRecDepth 100000 in
theorem qf104_32 : qck1 yT1 [qs35] qP 20000 [88] [qk104_116, qk104_32] qs104 qk104_32 = true := by decide +kernel
set_option maxRecDepth 100000 in
theorem qf104_33 : qck1 yT1 [qs35] qP 20000 [88] [qk104_117, qk104_33] qs104 qk104_33 = true := by decide +kernel
set_option maxRecDepth 100000 in
theorem qf104_34 : qck1 yT1 [qs35] qP 20000 [88] [qk104_118, qk104_34] qs104 qk104_34 = true := by decide +kernel
set_option maxRecDepth 100000 in
theorem qf104_35 : qck1 yT1 [qs35] qP 20000 [88] [qk104_119, qk104_35] qs104 qk104_35 = true := by decide +kernel
set_option maxRecDepth 100000 in
theorem qf104_36 : qck1 yT1 [qs35] qP 20000 [88] [qk104_120, qk104_36] qs104 qk104_36 = true := by decide +kernel
set_option maxRecDepth 100000 in
theorem qf104_37 : qck1 yT1 [qs35] qP 20000 [88] [qk104_121, qk104_37] qs104 qk104_37 = true := by decide +kernel
set_option maxRecDepth 100000 in
theorem qf104_38 : qck1 yT1 [qs35] qP 20000 [88] [qk104_122, qk104_38] qs104 qk104_38 = true := by decide +kernel
set_option maxRecDepth 100000 in
theorem qf104_39 : qck1 yT1 [qs35] qP 20000 [88] [qk104_123, qk104_39] qs104 qk104_39 = true := by decide +kernel
set_option maxRecDepth 100000 in
theorem qf104_40 : qck1 yT1 [qs35] qP 20000 [88] [qk104_124] qs104 qk104_40 = true := by decide +kernel
set_option maxRecDepth 100000 in
theorem qf104_41 : qck1 yT1 [qs35] qP 20000 [88] [qk104_125, qk104_105, qk104_21, qk104_106, qk104_22, qk104_107, qk104_23, qk104_108, qk104_24, qk104_109, qk104_25, qk104_110, qk104_26, qk104_111, qk104_27, qk104_112, qk104_28, qk104_113, qk104_29, qk104_114, qk104_30, qk104_115, qk104_31, qk104_116, qk104_32, qk104_117, qk104_33, qk104_118, qk104_34, qk104_119, qk104_35, qk104_120, qk104_36, qk104_121, qk104_37, qk104_122, qk104_38, qk104_123, qk104_39, qk104_124, qk104_40] qs104 qk104_41 = true := by decide +kernel
set_option maxRecDepth 100000 in
theorem qf104_42 : qck1 yT1 [qs35] qP 20000 [88] [qk104_126, qk104_42] qs104 qk104_42 = true := by decide +kernel
set_option maxRecDepth 100000 in
theorem qf104_43 : qck1 yT1 [qs35] qP 20000 [88] [qk104_127, qk104_43] qs104 qk104_43 = true := by decide +kernel
set_option maxRecDepth 100000 in
theorem qf104_44 : qck1 yT1 [qs35] qP 20000 [88] [qk104_128, qk104_44] qs104 qk104_44 = true := by decide +kernel
set_option maxRecDepth 100000 in
theorem qf104_45 : qck1 yT1 [qs35] qP 20000 [88] [qk104_129, qk104_45] qs104 qk104_45 = true := by decide +kernel
set_option maxRecDepth 100000 in
theorem qf104_46 : qck1 yT1 [qs35] qP 20000 [88] [qk104_130, qk104_46] qs104 qk104_46 = true := by decide +kernel
set_option maxRecDepth 100000 in
theorem qf104_47 : qck1 yT1 [qs35] qP 20000 [88] [qk104_131, qk104_47] qs104 qk104_47 = true := by decide +kernel
set_option maxRecDepth 100000 in
theorem qf104_48 : qck1 yT1 [qs35] qP 20000 [88] [qk104_132, qk104_48] qs104 qk104_48 = true := by decide +kernel
set_option maxRecDepth 100000 in
theorem qf104_49 : qck1 yT1 [qs35] qP 20000 [88] [qk104_133, qk104_49] qs104 qk104_49 = true := by decide +kernel
set_option maxRecDepth 100000 in
theorem qf104_50 : qck1 yT1 [qs35] qP 20000 [88] [qk104_134, qk104_50] qs104 qk104_50 = true := by decide +kernel
set_option maxRecDepth 100000 in
theorem qf104_51 : qck1 yT1 [qs35] qP 20000 [88] [qk104_135, qk104_51] qs104 qk104_51 = true := by decide +kernel
set_option maxRecDepth 100000 in
theorem qf104_52 : qck1 yT1 [qs35] qP 20000 [88] [qk104_136, qk104_52] qs104 qk104_52 = true := by decide +kernel
set_option maxRecDepth 100000 in
theorem qf104_53 : qck1 yT1 [qs35] qP 20000 [88] [qk104_137, qk104_53] qs104 qk104_53 = true := by decide +kernel
set_option maxRecDepth 100000 in
theorem qf104_54 : qck1 yT1 [qs35] qP 20000 [88] [qk104_138, qk104_54] qs104 qk104_54 = true := by decide +kernel
set_option maxRecDepth 100000 in
theorem qf104_55 : qck1 yT1 [qs35] qP 20000 [88] [qk104_139, qk104_55] qs104 qk104_55 = true := by decide +kernel
set_option maxRecDepth 100000 in
theorem qf104_56 : qck1 yT1 [qs35] qP 20000 [88] [qk104_140, qk104_56] qs104 qk104_56 = true := by decide +kernel
set_option maxRecDepth 100000 in
theorem qf104_57 : qck1 yT1 [qs35] qP 20000 [88] [qk104_141, qk104_57] qs104 qk104_57 = true := by decide +kernel
set_option maxRecDepth 100000 in
theorem qf104_58 : qck1 yT1 [qs35] qP 20000 [88] [qk104_142, qk104_58] qs104 qk104_58 = true := by decide +kernel
set_option maxRecDepth 100000 in
theorem qf104_59 : qck1 yT1 [qs35] qP 20000 [88] [qk104_143, qk104_59] qs104 qk104_59 = true := by decide +kernel
set_option maxRecDepth 100000 in
theorem qf104_60 : qck1 yT1 [qs35] qP 20000 [88] [qk104_144, qk104_60] qs104 qk104_60 = true := by decide +kernel
set_option maxRecDepth 100000 in
theorem qf104_61 : qck1 yT1 [qs35] qP 20000 [88] [qk104_145] qs104 qk104_61 = true := by decide +kernel
set_option maxRecDepth 100000 in
theorem qf104_62 : qck1 yT1 [qs35] qP 20000 [88] [qk104_146, qk104_126, qk104_42, qk104_127, qk104_43, qk104_128, qk104_44, qk104_129, qk104_45, qk104_130, qk104_46, qk104_131, qk104_47, qk104_132, qk104_48, qk104_133, qk104_49, qk104_134, qk104_50, qk104_135, qk104_51, qk104_136, qk104_52, qk104_137, qk104_53, qk104_138, qk104_54, qk104_139, qk104_55, qk104_140, qk104_56, qk104_141, qk104_57, qk104_142, qk104_58, qk104_143, qk104_59, qk104_144, qk104_60, qk104_145, qk104_61] qs104 qk104_62 = true := by decide +kernel
set_option maxRecDepth 100000 in
theorem qf104_63 : qck1 yT1 [qs35] qP 20000 [88] [qk104_147, qk104_63] qs104 qk104_63 = true := by decide +kernel
set_option maxRecDepth 100000 in
theorem qf104_64 : qck1 yT1 [qs35] qP 20000 [88] [qk104_148, qk104_64] qs104 qk104_64 = true := by decide +kernel
set_option maxRecDepth 100000 in
theorem qf104_65 : qck1 yT1 [qs35] qP 20000 [88] [qk104_149, qk104_65] qs104 qk104_65 = true := by decide +kernel
set_option maxRecDepth 100000 in
theorem qf104_66 : qck1 yT1 [qs35] qP 20000 [88] [qk104_150, qk104_66] qs104 qk104_66 = true := by decide +kernel
set_option maxRecDepth 100000 in
theorem qf104_67 : qck1 yT1 [qs35] qP 20000 [88] [qk104_151, qk104_67] qs104 qk104_67 = true := by decide +kernel
set_option maxRecDepth 100000 in
theorem qf104_68 : qck1 yT1 [qs35] qP 20000 [88] [qk104_152, qk104_68] qs104 qk104_68 = true := by decide +kernel
set_option maxRecDepth 100000 in
theorem qf104_69 : qck1 yT1 [qs35] qP 20000 [88] [qk104_153, qk104_69] qs104 qk104_69 = true := by decide +kernel
set_option maxRecDepth 100000 in
theorem qf104_70 : qck1 yT1 [qs35] qP 20000 [88] [qk104_154, qk104_70] qs104 qk104_70 = true := by decide +kernel
set_option maxRecDepth 100000 in
theorem qf104_71 : qck1 yT1 [qs35] qP 20000 [88] [qk104_155, qk104_71] qs104 qk104_71 = true := by decide +kernel
set_option maxRecDepth 100000 in
theorem qf104_72 : qck1 yT1 [qs35] qP 20000 [88] [qk104_156, qk104_72] qs104 qk104_72 = true := by decide +kernel
set_option maxRecDepth 100000 in
theorem qf104_73 : qck1 yT1 [qs35] qP 20000 [88] [qk104_157, qk104_73] qs104 qk104_73 = true := by decide +kernel
set_option maxRecDepth 100000 in
theorem qf104_74 : qck1 yT1 [qs35] qP 20000 [88] [qk104_158, qk104_74] qs104 qk104_74 = true := by decide +kernel
set_option maxRecDepth 100000 in
theorem qf104_75 : qck1 yT1 [qs35] qP 20000 [88] [qk104_159, qk104_75] qs104 qk104_75 = true := by decide +kernel
