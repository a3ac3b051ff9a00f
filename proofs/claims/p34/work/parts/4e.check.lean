/-! the methods are as their summaries say, 4 -/
def qc148_0 : List qCt := [((11, [[(.ofNat 0, .ofNat 0)], [(.negSucc 2147483647, .ofNat 2147483647)], [(.negSucc 3, .negSucc 3), (.ofNat 0, .ofNat 4)], [(.negSucc 0, .ofNat 4)]], [(0, .inr (.inr (.ref 71))), (1, .inl (0, .ofNat 108)), (2, .inl (1, .ofNat 0)), (3, .inl (2, .ofNat 0)), (4, .inl (3, .ofNat 0))], [], []), [], [(false, .ofNat 4989, (0, .ofNat 0)), (true, .negSucc 1, (3, .ofNat 0)), (false, .ofNat 9000, (0, .ofNat 0)), (false, .ofNat 0, (0, .ofNat 0))])]
def qc148 : List qCt := qc148_0
set_option maxRecDepth 100000 in
theorem qe148 : qck0 yT1 [qs147] qP 20000 [] qc148 qs148 = true := by decide +kernel
set_option maxRecDepth 100000 in
theorem qf148_0 : qc148_0.all (qck1 yT1 [qs147] qP 20000 [] qc148 qs148) = true := by decide +kernel
set_option maxRecDepth 100000 in
theorem qo148 : qOK yT1 86 1471 qs148 := qck_ok (m := 4) (qall_c qo147 qall_n) rfl qe148 qf148_0 (by decide +kernel) (by decide +kernel)
def qc149_0 : List qCt := [((2, [[(.ofNat 0, .ofNat 0)], [(.ofNat 0, .ofNat 98)], [(.ofNat 0, .ofNat 98)], [(.ofNat 0, .ofNat 98)], [(.ofNat 0, .ofNat 98)], [(.ofNat 0, .ofNat 98)]], [(0, .inr (.inr (.ref 71))), (1, .inl (0, .ofNat 108)), (2, .inl (0, .ofNat 10))], [], [((72, 117), .inl (1, .ofNat 0)), ((72, 116), .inl (2, .ofNat 0)), ((72, 115), .inl (3, .ofNat 0)), ((72, 114), .inl (4, .ofNat 0)), ((72, 113), .inl (5, .ofNat 0))]), [], [(false, .ofNat 4998, (0, .ofNat 0)), (false, .ofNat 16, (0, .ofNat 10)), (false, .ofNat 9000, (0, .ofNat 0)), (false, .ofNat 0, (0, .ofNat 0))]),
  ((2, [[(.ofNat 0, .ofNat 0)], [(.ofNat 0, .ofNat 98)], [(.ofNat 0, .ofNat 98)], [(.ofNat 0, .ofNat 98)], [(.ofNat 0, .ofNat 98)], [(.ofNat 0, .ofNat 98)], [(.ofNat 0, .ofNat 98)]], [(0, .inr (.inr (.ref 71))), (1, .inl (0, .ofNat 108)), (2, .inl (0, .ofNat 11))], [], [((72, 118), .inl (1, .ofNat 0)), ((72, 117), .inl (2, .ofNat 0)), ((72, 116), .inl (3, .ofNat 0)), ((72, 115), .inl (4, .ofNat 0)), ((72, 114), .inl (5, .ofNat 0)), ((72, 113), .inl (6, .ofNat 0))]), [], [(false, .ofNat 4998, (0, .ofNat 0)), (false, .ofNat 16, (0, .ofNat 11)), (false, .ofNat 9000, (0, .ofNat 0)), (false, .ofNat 0, (0, .ofNat 0))]),
  ((2, [[(.ofNat 0, .ofNat 0)], [(.ofNat 0, .ofNat 98)], [(.ofNat 0, .ofNat 98)], [(.ofNat 0, .ofNat 98)], [(.ofNat 0, .ofNat 98)], [(.ofNat 0, .ofNat 98)], [(.ofNat 0, .ofNat 98)], [(.ofNat 0, .ofNat 98)]], [(0, .inr (.inr (.ref 71))), (1, .inl (0, .ofNat 108)), (2, .inl (0, .ofNat 12))], [], [((72, 119), .inl (1, .ofNat 0)), ((72, 118), .inl (2, .ofNat 0)), ((72, 117), .inl (3, .ofNat 0)), ((72, 116), .inl (4, .ofNat 0)), ((72, 115), .inl (5, .ofNat 0)), ((72, 114), .inl (6, .ofNat 0)), ((72, 113), .inl (7, .ofNat 0))]), [], [(false, .ofNat 4998, (0, .ofNat 0)), (false, .ofNat 16, (0, .ofNat 12)), (false, .ofNat 9000, (0, .ofNat 0)), (false, .ofNat 0, (0, .ofNat 0))]),
  ((2, [[(.ofNat 0, .ofNat 0)], [(.ofNat 0, .ofNat 98)], [(.ofNat 0, .ofNat 98)], [(.ofNat 0, .ofNat 98)], [(.ofNat 0, .ofNat 98)], [(.ofNat 0, .ofNat 98)], [(.ofNat 0, .ofNat 98)], [(.ofNat 0, .ofNat 98)], [(.ofNat 0, .ofNat 98)]], [(0, .inr (.inr (.ref 71))), (1, .inl (0, .ofNat 108)), (2, .inl (0, .ofNat 13))], [], [((72, 120), .inl (1, .ofNat 0)), ((72, 119), .inl (2, .ofNat 0)), ((72, 118), .inl (3, .ofNat 0)), ((72, 117), .inl (4, .ofNat 0)), ((72, 116), .inl (5, .ofNat 0)), ((72, 115), .inl (6, .ofNat 0)), ((72, 114), .inl (7, .ofNat 0)), ((72, 113), .inl (8, .ofNat 0))]), [], [(false, .ofNat 4998, (0, .ofNat 0)), (false, .ofNat 16, (0, .ofNat 13)), (false, .ofNat 9000, (0, .ofNat 0)), (false, .ofNat 0, (0, .ofNat 0))]),
  ((2, [[(.ofNat 0, .ofNat 0)], [(.ofNat 0, .ofNat 98)], [(.ofNat 0, .ofNat 98)], [(.ofNat 0, .ofNat 98)], [(.ofNat 0, .ofNat 98)], [(.ofNat 0, .ofNat 98)], [(.ofNat 0, .ofNat 98)], [(.ofNat 0, .ofNat 98)], [(.ofNat 0, .ofNat 98)], [(.ofNat 0, .ofNat 98)]], [(0, .inr (.inr (.ref 71))), (1, .inl (0, .ofNat 108)), (2, .inl (0, .ofNat 14))], [], [((72, 121), .inl (1, .ofNat 0)), ((72, 120), .inl (2, .ofNat 0)), ((72, 119), .inl (3, .ofNat 0)), ((72, 118), .inl (4, .ofNat 0)), ((72, 117), .inl (5, .ofNat 0)), ((72, 116), .inl (6, .ofNat 0)), ((72, 115), .inl (7, .ofNat 0)), ((72, 114), .inl (8, .ofNat 0)), ((72, 113), .inl (9, .ofNat 0))]), [], [(false, .ofNat 4998, (0, .ofNat 0)), (false, .ofNat 16, (0, .ofNat 14)), (false, .ofNat 9000, (0, .ofNat 0)), (false, .ofNat 0, (0, .ofNat 0))]),
  ((2, [[(.ofNat 0, .ofNat 0)], [(.ofNat 0, .ofNat 98)], [(.ofNat 0, .ofNat 98)], [(.ofNat 0, .ofNat 98)], [(.ofNat 0, .ofNat 98)], [(.ofNat 0, .ofNat 98)], [(.ofNat 0, .ofNat 98)], [(.ofNat 0, .ofNat 98)], [(.ofNat 0, .ofNat 98)], [(.ofNat 0, .ofNat 98)], [(.ofNat 0, .ofNat 98)]], [(0, .inr (.inr (.ref 71))), (1, .inl (0, .ofNat 108)), (2, .inl (0, .ofNat 15))], [], [((72, 122), .inl (1, .ofNat 0)), ((72, 121), .inl (2, .ofNat 0)), ((72, 120), .inl (3, .ofNat 0)), ((72, 119), .inl (4, .ofNat 0)), ((72, 118), .inl (5, .ofNat 0)), ((72, 117), .inl (6, .ofNat 0)), ((72, 116), .inl (7, .ofNat 0)), ((72, 115), .inl (8, .ofNat 0)), ((72, 114), .inl (9, .ofNat 0)), ((72, 113), .inl (10, .ofNat 0))]), [], [(false, .ofNat 4998, (0, .ofNat 0)), (false, .ofNat 16, (0, .ofNat 15)), (false, .ofNat 9000, (0, .ofNat 0)), (false, .ofNat 0, (0, .ofNat 0))]),
  ((2, [[(.ofNat 0, .ofNat 0)]], [(0, .inr (.inr (.ref 71))), (1, .inl (0, .ofNat 108)), (2, .inl (0, .ofNat 5))], [], []), [], [(false, .ofNat 4998, (0, .ofNat 0)), (false, .ofNat 16, (0, .ofNat 5)), (false, .ofNat 9000, (0, .ofNat 0)), (false, .ofNat 0, (0, .ofNat 0))]),
  ((2, [[(.ofNat 0, .ofNat 0)], [(.ofNat 0, .ofNat 98)]], [(0, .inr (.inr (.ref 71))), (1, .inl (0, .ofNat 108)), (2, .inl (0, .ofNat 6))], [], [((72, 113), .inl (1, .ofNat 0))]), [], [(false, .ofNat 4998, (0, .ofNat 0)), (false, .ofNat 16, (0, .ofNat 6)), (false, .ofNat 9000, (0, .ofNat 0)), (false, .ofNat 0, (0, .ofNat 0))]),
  ((2, [[(.ofNat 0, .ofNat 0)], [(.ofNat 0, .ofNat 98)], [(.ofNat 0, .ofNat 98)]], [(0, .inr (.inr (.ref 71))), (1, .inl (0, .ofNat 108)), (2, .inl (0, .ofNat 7))], [], [((72, 114), .inl (1, .ofNat 0)), ((72, 113), .inl (2, .ofNat 0))]), [], [(false, .ofNat 4998, (0, .ofNat 0)), (false, .ofNat 16, (0, .ofNat 7)), (false, .ofNat 9000, (0, .ofNat 0)), (false, .ofNat 0, (0, .ofNat 0))]),
  ((2, [[(.ofNat 0, .ofNat 0)], [(.ofNat 0, .ofNat 98)], [(.ofNat 0, .ofNat 98)], [(.ofNat 0, .ofNat 98)]], [(0, .inr (.inr (.ref 71))), (1, .inl (0, .ofNat 108)), (2, .inl (0, .ofNat 8))], [], [((72, 115), .inl (1, .ofNat 0)), ((72, 114), .inl (2, .ofNat 0)), ((72, 113), .inl (3, .ofNat 0))]), [], [(false, .ofNat 4998, (0, .ofNat 0)), (false, .ofNat 16, (0, .ofNat 8)), (false, .ofNat 9000, (0, .ofNat 0)), (false, .ofNat 0, (0, .ofNat 0))]),
  ((2, [[(.ofNat 0, .ofNat 0)], [(.ofNat 0, .ofNat 98)], [(.ofNat 0, .ofNat 98)], [(.ofNat 0, .ofNat 98)], [(.ofNat 0, .ofNat 98)]], [(0, .inr (.inr (.ref 71))), (1, .inl (0, .ofNat 108)), (2, .inl (0, .ofNat 9))], [], [((72, 116), .inl (1, .ofNat 0)), ((72, 115), .inl (2, .ofNat 0)), ((72, 114), .inl (3, .ofNat 0)), ((72, 113), .inl (4, .ofNat 0))]), [], [(false, .ofNat 4998, (0, .ofNat 0)), (false, .ofNat 16, (0, .ofNat 9)), (false, .ofNat 9000, (0, .ofNat 0)), (false, .ofNat 0, (0, .ofNat 0))])]
def qc149 : List qCt := qc149_0
set_option maxRecDepth 100000 in
theorem qe149 : qck0 yT1 [] qP 20000 [] qc149 qs149 = true := by decide +kernel
set_option maxRecDepth 100000 in
theorem qf149_0 : qc149_0.all (qck1 yT1 [] qP 20000 [] qc149 qs149) = true := by decide +kernel
set_option maxRecDepth 100000 in
theorem qo149 : qOK yT1 86 1471 qs149 := qck_ok (m := 4) qall_n rfl qe149 qf149_0 (by decide +kernel) (by decide +kernel)
def qc150_0 : List qCt := [((18, [[(.ofNat 0, .ofNat 0)], [(.negSucc 2147483647, .ofNat 2147483647)], [(.ofNat 0, .ofNat 8)], [(.negSucc 3, .negSucc 3), (.ofNat 0, .ofNat 7)]], [(0, .inr (.inr (.ref 71))), (1, .inl (1, .ofNat 0)), (2, .inl (2, .ofNat 0))], [], [((71, 20), .inl (3, .ofNat 0))]), [], [(false, .ofNat 4982, (0, .ofNat 0)), (false, .ofNat 9, (2, .ofNat 0)), (false, .ofNat 9000, (0, .ofNat 0)), (false, .ofNat 0, (0, .ofNat 0))])]
def qc150 : List qCt := qc150_0
set_option maxRecDepth 100000 in
theorem qe150 : qck0 yT1 [qs148, qs149] qP 20000 [] qc150 qs150 = true := by decide +kernel
set_option maxRecDepth 100000 in
theorem qf150_0 : qc150_0.all (qck1 yT1 [qs148, qs149] qP 20000 [] qc150 qs150) = true := by decide +kernel
set_option maxRecDepth 100000 in
theorem qo150 : qOK yT1 86 1471 qs150 := qck_ok (m := 4) (qall_c qo148 (qall_c qo149 qall_n)) rfl qe150 qf150_0 (by decide +kernel) (by decide +kernel)
def qc151_0 : List qCt := [((5, [[(.ofNat 0, .ofNat 0)], [(.negSucc 3, .negSucc 3), (.ofNat 0, .ofNat 99)], [(.ofNat 0, .ofNat 5)]], [(0, .inr (.inr (.ref 71))), (1, .inl (0, .ofNat 108)), (2, .inl (1, .ofNat 0)), (3, .inl (2, .ofNat 0))], [], []), [], [(false, .ofNat 4995, (0, .ofNat 0)), (false, .ofNat 6, (2, .ofNat 0)), (false, .ofNat 9000, (0, .ofNat 0)), (false, .ofNat 0, (0, .ofNat 0))])]
def qc151 : List qCt := qc151_0
set_option maxRecDepth 100000 in
theorem qe151 : qck0 yT1 [] qP 20000 [] qc151 qs151 = true := by decide +kernel
set_option maxRecDepth 100000 in
theorem qf151_0 : qc151_0.all (qck1 yT1 [] qP 20000 [] qc151 qs151) = true := by decide +kernel
set_option maxRecDepth 100000 in
theorem qo151 : qOK yT1 86 1471 qs151 := qck_ok (m := 4) qall_n rfl qe151 qf151_0 (by decide +kernel) (by decide +kernel)
def qc152 : List qCt := []
set_option maxRecDepth 100000 in
theorem qe152 : qck0 yT1 [qs134, qs146, qs150, qs151] qP 20000 [] qc152 qs152 = true := by decide +kernel
set_option maxRecDepth 100000 in
theorem qo152 : qOK yT1 86 1471 qs152 := qck_ok (m := 0) (qall_c qo134 (qall_c qo146 (qall_c qo150 (qall_c qo151 qall_n)))) rfl qe152 rfl (by decide +kernel) (by decide +kernel)
def qc153 : List qCt := []
set_option maxRecDepth 100000 in
theorem qe153 : qck0 yT1 [qs146, qs150] qP 20000 [] qc153 qs153 = true := by decide +kernel
set_option maxRecDepth 100000 in
theorem qo153 : qOK yT1 86 1471 qs153 := qck_ok (m := 0) (qall_c qo146 (qall_c qo150 qall_n)) rfl qe153 rfl (by decide +kernel) (by decide +kernel)
def qc154_0 : List qCt := [((9, [[(.ofNat 0, .ofNat 0)], [(.ofNat 1, .ofNat 61)]], [(0, .inr (.inr (.ref 71))), (1, .inl (1, .ofNat 0))], [], []), [], [(false, .ofNat 4991, (0, .ofNat 0)), (false, .ofNat 62, (1, .ofNat 0)), (false, .ofNat 9000, (0, .ofNat 0)), (false, .ofNat 0, (0, .ofNat 0))])]
def qc154 : List qCt := qc154_0
set_option maxRecDepth 100000 in
theorem qe154 : qck0 yT1 [qs146, qs150] qP 20000 [] qc154 qs154 = true := by decide +kernel
set_option maxRecDepth 100000 in
theorem qf154_0 : qc154_0.all (qck1 yT1 [qs146, qs150] qP 20000 [] qc154 qs154) = true := by decide +kernel
set_option maxRecDepth 100000 in
theorem qo154 : qOK yT1 86 1471 qs154 := qck_ok (m := 4) (qall_c qo146 (qall_c qo150 qall_n)) rfl qe154 qf154_0 (by decide +kernel) (by decide +kernel)
def qc155 : List qCt := []
set_option maxRecDepth 100000 in
theorem qe155 : qck0 yT1 [] qP 20000 [] qc155 qs155 = true := by decide +kernel
set_option maxRecDepth 100000 in
theorem qo155 : qOK yT1 86 1471 qs155 := qck_ok (m := 0) qall_n rfl qe155 rfl (by decide +kernel) (by decide +kernel)
def qc156 : List qCt := []
set_option maxRecDepth 100000 in
theorem qe156 : qck0 yT1 [] qP 20000 [] qc156 qs156 = true := by decide +kernel
set_option maxRecDepth 100000 in
theorem qo156 : qOK yT1 86 1471 qs156 := qck_ok (m := 0) qall_n rfl qe156 rfl (by decide +kernel) (by decide +kernel)
def qc157 : List qCt := []
set_option maxRecDepth 100000 in
theorem qe157 : qck0 yT1 [] qP 20000 [] qc157 qs157 = true := by decide +kernel
set_option maxRecDepth 100000 in
theorem qo157 : qOK yT1 86 1471 qs157 := qck_ok (m := 0) qall_n rfl qe157 rfl (by decide +kernel) (by decide +kernel)
def qc158_0 : List qCt := [((48, [[(.ofNat 0, .ofNat 0)], [(.ofNat 1, .ofNat 31)], [(.ofNat 0, .ofNat 0), (.ofNat 10, .ofNat 14)], [(.ofNat 1, .ofNat 31)], [(.ofNat 0, .ofNat 5)], [(.negSucc 0, .ofNat 2147483647)], [(.ofNat 0, .ofNat 3124)], [(.ofNat 0, .ofNat 3125)]], [(0, .inr (.inr (.ref 71))), (1, .inl (3, .ofNat 0)), (2, .inl (2, .ofNat 0)), (3, .inl (4, .ofNat 0)), (4, .inl (5, .ofNat 0)), (5, .inl (6, .ofNat 0)), (6, .inl (7, .ofNat 0))], [], []), [], [(false, .ofNat 4952, (0, .ofNat 0)), (false, .ofNat 3126, (7, .ofNat 0)), (false, .ofNat 9000, (0, .ofNat 0)), (false, .ofNat 0, (0, .ofNat 0)), (false, .ofNat 9000, (0, .ofNat 0)), (false, .ofNat 0, (0, .ofNat 0))]),
  ((63, [[(.ofNat 0, .ofNat 0)], [(.ofNat 1, .ofNat 31)], [(.ofNat 0, .ofNat 0), (.ofNat 10, .ofNat 14)], [(.ofNat 1, .ofNat 31)], [(.ofNat 0, .ofNat 5)], [(.negSucc 0, .ofNat 2147483647)], [(.ofNat 0, .ofNat 3124)], [(.ofNat 0, .ofNat 3124)], [(.ofNat 0, .ofNat 31)], [(.ofNat 0, .ofNat 5)]], [(0, .inr (.inr (.ref 71))), (1, .inl (3, .ofNat 0)), (2, .inl (2, .ofNat 0)), (3, .inl (4, .ofNat 0)), (4, .inl (5, .ofNat 0)), (5, .inl (6, .ofNat 0)), (6, .inl (7, .ofNat 0)), (7, .inl (8, .ofNat 0)), (8, .inl (9, .ofNat 0))], [], []), [], [(false, .ofNat 4952, (0, .ofNat 0)), (false, .ofNat 3126, (7, .ofNat 0)), (false, .ofNat 4937, (0, .ofNat 0)), (false, .ofNat 6, (9, .ofNat 0)), (false, .ofNat 9000, (0, .ofNat 0)), (false, .ofNat 0, (0, .ofNat 0))]),
  ((109, [[(.ofNat 0, .ofNat 0)], [(.ofNat 1, .ofNat 31)], [(.ofNat 0, .ofNat 0), (.ofNat 10, .ofNat 14)], [(.ofNat 1, .ofNat 31)], [(.ofNat 0, .ofNat 5)], [(.negSucc 0, .ofNat 2147483647)], [(.ofNat 0, .ofNat 3124)], [(.ofNat 0, .ofNat 3124)], [(.ofNat 1, .ofNat 31)], [(.negSucc 2147483647, .ofNat 2147483647)], [(.ofNat 0, .ofNat 5)]], [(0, .inr (.inr (.ref 71))), (1, .inl (3, .ofNat 0)), (2, .inl (2, .ofNat 0)), (3, .inl (4, .ofNat 0)), (4, .inl (5, .ofNat 0)), (5, .inl (6, .ofNat 0)), (6, .inl (7, .ofNat 0)), (7, .inl (8, .ofNat 0)), (8, .inl (9, .ofNat 0)), (9, .inl (10, .ofNat 0))], [], []), [], [(false, .ofNat 4952, (0, .ofNat 0)), (false, .ofNat 3126, (7, .ofNat 0)), (false, .ofNat 4891, (0, .ofNat 0)), (false, .ofNat 6, (10, .ofNat 0)), (false, .ofNat 9000, (0, .ofNat 0)), (false, .ofNat 0, (0, .ofNat 0))])]
def qc158 : List qCt := qc158_0
set_option maxRecDepth 100000 in
theorem qe158 : qck0 yT1 [qs155, qs156, qs157, qs146, qs148] qP 20000 [] qc158 qs158 = true := by decide +kernel
set_option maxRecDepth 100000 in
theorem qf158_0 : qc158_0.all (qck1 yT1 [qs155, qs156, qs157, qs146, qs148] qP 20000 [] qc158 qs158) = true := by decide +kernel
set_option maxRecDepth 100000 in
theorem qo158 : qOK yT1 86 1471 qs158 := qck_ok (m := 6) (qall_c qo155 (qall_c qo156 (qall_c qo157 (qall_c qo146 (qall_c qo148 qall_n))))) rfl qe158 qf158_0 (by decide +kernel) (by decide +kernel)
def qc159 : List qCt := []
set_option maxRecDepth 100000 in
theorem qe159 : qck0 yT1 [] qP 20000 [] qc159 qs159 = true := by decide +kernel
set_option maxRecDepth 100000 in
theorem qo159 : qOK yT1 86 1471 qs159 := qck_ok (m := 0) qall_n rfl qe159 rfl (by decide +kernel) (by decide +kernel)
def qc160_0 : List qCt := [((13, [[(.ofNat 0, .ofNat 0)], [(.ofNat 0, .ofNat 4)], [(.ofNat 0, .ofNat 3124)], [(.ofNat 0, .ofNat 5)], [(.ofNat 0, .ofNat 1)], [(.ofNat 0, .ofNat 5)]], [(0, .inr (.inr (.ref 71))), (1, .inl (1, .ofNat 0)), (2, .inl (2, .ofNat 0)), (3, .inl (3, .ofNat 0)), (4, .inl (4, .ofNat 0)), (5, .inl (5, .ofNat 0))], [], []), [], [(false, .ofNat 4987, (0, .ofNat 0)), (false, .ofNat 6, (5, .ofNat 0)), (false, .ofNat 9000, (0, .ofNat 0)), (false, .ofNat 0, (0, .ofNat 0))])]
def qc160 : List qCt := qc160_0
set_option maxRecDepth 100000 in
theorem qe160 : qck0 yT1 [qs146, qs147, qs157, qs148] qP 20000 [] qc160 qs160 = true := by decide +kernel
set_option maxRecDepth 100000 in
theorem qf160_0 : qc160_0.all (qck1 yT1 [qs146, qs147, qs157, qs148] qP 20000 [] qc160 qs160) = true := by decide +kernel
set_option maxRecDepth 100000 in
theorem qo160 : qOK yT1 86 1471 qs160 := qck_ok (m := 4) (qall_c qo146 (qall_c qo147 (qall_c qo157 (qall_c qo148 qall_n)))) rfl qe160 qf160_0 (by decide +kernel) (by decide +kernel)
def qc161_0 : List qCt := [((30, [[(.ofNat 0, .ofNat 0)], [(.ofNat 0, .ofNat 4)], [(.ofNat 0, .ofNat 0), (.ofNat 10, .ofNat 13)], [(.ofNat 0, .ofNat 5)], [(.ofNat 1, .ofNat 5)]], [(0, .inr (.inr (.ref 71))), (1, .inl (1, .ofNat 0)), (2, .inl (2, .ofNat 0)), (3, .inl (3, .ofNat 0))], [], [((71, 2), .inl (4, .ofNat 0))]), [], [(false, .ofNat 4970, (0, .ofNat 0)), (false, .ofNat 6, (3, .ofNat 0)), (false, .ofNat 9000, (0, .ofNat 0)), (false, .ofNat 0, (0, .ofNat 0)), (false, .ofNat 9000, (0, .ofNat 0)), (false, .ofNat 0, (0, .ofNat 0))]),
  ((38, [[(.ofNat 0, .ofNat 0)], [(.ofNat 0, .ofNat 4)], [(.ofNat 0, .ofNat 0), (.ofNat 10, .ofNat 13)], [(.ofNat 0, .ofNat 4)], [(.ofNat 0, .ofNat 3125)], [(.ofNat 1, .ofNat 5)]], [(0, .inr (.inr (.ref 71))), (1, .inl (1, .ofNat 0)), (2, .inl (2, .ofNat 0)), (3, .inl (3, .ofNat 0)), (4, .inl (4, .ofNat 0))], [], [((71, 2), .inl (5, .ofNat 0))]), [], [(false, .ofNat 4970, (0, .ofNat 0)), (false, .ofNat 6, (3, .ofNat 0)), (false, .ofNat 4962, (0, .ofNat 0)), (false, .ofNat 3126, (4, .ofNat 0)), (false, .ofNat 9000, (0, .ofNat 0)), (false, .ofNat 0, (0, .ofNat 0))])]
def qc161 : List qCt := qc161_0
set_option maxRecDepth 100000 in
theorem qe161 : qck0 yT1 [qs159, qs157, qs160] qP 20000 [] qc161 qs161 = true := by decide +kernel
set_option maxRecDepth 100000 in
theorem qf161_0 : qc161_0.all (qck1 yT1 [qs159, qs157, qs160] qP 20000 [] qc161 qs161) = true := by decide +kernel
set_option maxRecDepth 100000 in
theorem qo161 : qOK yT1 86 1471 qs161 := qck_ok (m := 6) (qall_c qo159 (qall_c qo157 (qall_c qo160 qall_n))) rfl qe161 qf161_0 (by decide +kernel) (by decide +kernel)
def qc162_0 : List qCt := [((19, [[(.ofNat 0, .ofNat 0)], [(.ofNat 0, .ofNat 1)], [(.negSucc 0, .ofNat 2147483647)], [(.ofNat 0, .ofNat 31)], [(.ofNat 0, .ofNat 32)]], [(0, .inr (.inr (.ref 71))), (1, .inl (1, .ofNat 0)), (2, .inl (2, .ofNat 0)), (3, .inl (3, .ofNat 0)), (4, .inl (4, .ofNat 0))], [], []), [], [(false, .ofNat 4981, (0, .ofNat 0)), (false, .ofNat 33, (4, .ofNat 0)), (false, .ofNat 9000, (0, .ofNat 0)), (false, .ofNat 0, (0, .ofNat 0))])]
def qc162 : List qCt := qc162_0
set_option maxRecDepth 100000 in
theorem qe162 : qck0 yT1 [qs135, qs146, qs150] qP 20000 [] qc162 qs162 = true := by decide +kernel
set_option maxRecDepth 100000 in
theorem qf162_0 : qc162_0.all (qck1 yT1 [qs135, qs146, qs150] qP 20000 [] qc162 qs162) = true := by decide +kernel
set_option maxRecDepth 100000 in
theorem qo162 : qOK yT1 86 1471 qs162 := qck_ok (m := 4) (qall_c qo135 (qall_c qo146 (qall_c qo150 qall_n))) rfl qe162 qf162_0 (by decide +kernel) (by decide +kernel)
def qc163_0 : List qCt := [((28, [[(.ofNat 0, .ofNat 0)], [(.ofNat 0, .ofNat 1)], [(.negSucc 2147483647, .ofNat 2147483647)], [(.negSucc 3, .negSucc 3), (.ofNat 0, .ofNat 4)], [(.ofNat 0, .ofNat 5)]], [(0, .inr (.inr (.ref 71))), (1, .inl (1, .ofNat 0)), (2, .inl (2, .ofNat 0)), (3, .inl (3, .ofNat 0)), (4, .inl (4, .ofNat 0))], [], []), [], [(false, .ofNat 4972, (0, .ofNat 0)), (false, .ofNat 6, (4, .ofNat 0)), (false, .ofNat 9000, (0, .ofNat 0)), (false, .ofNat 0, (0, .ofNat 0))])]
def qc163 : List qCt := qc163_0
set_option maxRecDepth 100000 in
theorem qe163 : qck0 yT1 [qs135, qs146, qs150] qP 20000 [] qc163 qs163 = true := by decide +kernel
set_option maxRecDepth 100000 in
theorem qf163_0 : qc163_0.all (qck1 yT1 [qs135, qs146, qs150] qP 20000 [] qc163 qs163) = true := by decide +kernel
set_option maxRecDepth 100000 in
theorem qo163 : qOK yT1 86 1471 qs163 := qck_ok (m := 4) (qall_c qo135 (qall_c qo146 (qall_c qo150 qall_n))) rfl qe163 qf163_0 (by decide +kernel) (by decide +kernel)
def qc164_0 : List qCt := [((28, [[(.ofNat 0, .ofNat 0)], [(.ofNat 0, .ofNat 1)], [(.negSucc 2147483647, .ofNat 2147483647)], [(.negSucc 3, .negSucc 3), (.ofNat 1, .ofNat 47)], [(.ofNat 0, .ofNat 5)]], [(0, .inr (.inr (.ref 71))), (1, .inl (1, .ofNat 0)), (2, .inl (2, .ofNat 0)), (3, .inl (3, .ofNat 0)), (4, .inl (4, .ofNat 0))], [], []), [], [(false, .ofNat 4972, (0, .ofNat 0)), (false, .ofNat 6, (4, .ofNat 0)), (false, .ofNat 9000, (0, .ofNat 0)), (false, .ofNat 0, (0, .ofNat 0)), (false, .ofNat 9000, (0, .ofNat 0)), (false, .ofNat 0, (0, .ofNat 0))]),
  ((43, [[(.ofNat 0, .ofNat 0)], [(.ofNat 0, .ofNat 1)], [(.negSucc 2147483647, .ofNat 2147483647)], [(.negSucc 3, .negSucc 3), (.ofNat 1, .ofNat 47)], [(.ofNat 0, .ofNat 4)], [(.ofNat 1, .ofNat 5)], [(.ofNat 1, .ofNat 5)]], [(0, .inr (.inr (.ref 71))), (1, .inl (1, .ofNat 0)), (2, .inl (2, .ofNat 0)), (3, .inl (3, .ofNat 0)), (4, .inl (4, .ofNat 0)), (5, .inl (5, .ofNat 0))], [], [((71, 2), .inl (6, .ofNat 0))]), [], [(false, .ofNat 4972, (0, .ofNat 0)), (false, .ofNat 6, (4, .ofNat 0)), (false, .ofNat 4957, (0, .ofNat 0)), (false, .ofNat 6, (5, .ofNat 0)), (false, .ofNat 9000, (0, .ofNat 0)), (false, .ofNat 0, (0, .ofNat 0))])]
def qc164 : List qCt := qc164_0
set_option maxRecDepth 100000 in
theorem qe164 : qck0 yT1 [qs135, qs146, qs150] qP 20000 [] qc164 qs164 = true := by decide +kernel
set_option maxRecDepth 100000 in
theorem qf164_0 : qc164_0.all (qck1 yT1 [qs135, qs146, qs150] qP 20000 [] qc164 qs164) = true := by decide +kernel
set_option maxRecDepth 100000 in
theorem qo164 : qOK yT1 86 1471 qs164 := qck_ok (m := 6) (qall_c qo135 (qall_c qo146 (qall_c qo150 qall_n))) rfl qe164 qf164_0 (by decide +kernel) (by decide +kernel)
def qc165_0 : List qCt := [((2, [[(.ofNat 0, .ofNat 0)], [(.ofNat 0, .ofNat 10)]], [(0, .inr (.inr (.ref 71))), (1, .inl (1, .ofNat 0))], [], []), [], [(false, .ofNat 4998, (0, .ofNat 0)), (false, .ofNat 11, (1, .ofNat 0)), (false, .ofNat 9000, (0, .ofNat 0)), (false, .ofNat 0, (0, .ofNat 0))])]
def qc165 : List qCt := qc165_0
set_option maxRecDepth 100000 in
theorem qe165 : qck0 yT1 [qs146, qs150] qP 20000 [] qc165 qs165 = true := by decide +kernel
set_option maxRecDepth 100000 in
theorem qf165_0 : qc165_0.all (qck1 yT1 [qs146, qs150] qP 20000 [] qc165 qs165) = true := by decide +kernel
set_option maxRecDepth 100000 in
theorem qo165 : qOK yT1 86 1471 qs165 := qck_ok (m := 4) (qall_c qo146 (qall_c qo150 qall_n)) rfl qe165 qf165_0 (by decide +kernel) (by decide +kernel)
def qc166 : List qCt := []
set_option maxRecDepth 100000 in
theorem qe166 : qck0 yT1 [] qP 20000 [] qc166 qs166 = true := by decide +kernel
set_option maxRecDepth 100000 in
theorem qo166 : qOK yT1 86 1471 qs166 := qck_ok (m := 0) qall_n rfl qe166 rfl (by decide +kernel) (by decide +kernel)
def qc168_0 : List qCt := [((35, [[(.ofNat 0, .ofNat 0)], [(.negSucc 2147483647, .ofNat 2147483647)], [(.negSucc 2147483647, .ofNat 2147483647)], [(.negSucc 2147483647, .ofNat 2147483647)], [(.negSucc 9223372036854775807, .ofNat 9223372036854775807)], [(.ofNat 1, .ofNat 1), (.ofNat 10, .ofNat 10), (.ofNat 100, .ofNat 100), (.ofNat 1000, .ofNat 1000), (.ofNat 10000, .ofNat 10000), (.ofNat 100000, .ofNat 100000)], [(.ofNat 0, .ofNat 32)]], [(0, .inr (.inr (.ref 71))), (1, .inl (1, .ofNat 0)), (2, .inl (2, .ofNat 0)), (3, .inl (3, .ofNat 0)), (4, .inr (.inl (4, .ofNat 0))), (6, .inr (.inl (5, .ofNat 0))), (8, .inl (6, .ofNat 0))], [], []), [], [(false, .ofNat 4965, (0, .ofNat 0)), (false, .ofNat 33, (6, .ofNat 0)), (false, .ofNat 9000, (0, .ofNat 0)), (false, .ofNat 0, (0, .ofNat 0)), (false, .ofNat 9000, (0, .ofNat 0)), (false, .ofNat 0, (0, .ofNat 0))]),
  ((50, [[(.ofNat 0, .ofNat 0)], [(.negSucc 2147483647, .ofNat 2147483647)], [(.negSucc 2147483647, .ofNat 2147483647)], [(.negSucc 2147483647, .ofNat 2147483647)], [(.negSucc 9223372036854775807, .ofNat 9223372036854775807)], [(.ofNat 1, .ofNat 1), (.ofNat 10, .ofNat 10), (.ofNat 100, .ofNat 100), (.ofNat 1000, .ofNat 1000), (.ofNat 10000, .ofNat 10000), (.ofNat 100000, .ofNat 100000)], [(.ofNat 0, .ofNat 31)], [(.negSucc 9223372036854775807, .ofNat 9223372036854775807)], [(.ofNat 0, .ofNat 5)]], [(0, .inr (.inr (.ref 71))), (1, .inl (1, .ofNat 0)), (2, .inl (2, .ofNat 0)), (3, .inl (3, .ofNat 0)), (4, .inr (.inl (4, .ofNat 0))), (6, .inr (.inl (5, .ofNat 0))), (8, .inl (6, .ofNat 0)), (9, .inr (.inl (7, .ofNat 0))), (11, .inl (8, .ofNat 0))], [], []), [], [(false, .ofNat 4965, (0, .ofNat 0)), (false, .ofNat 33, (6, .ofNat 0)), (false, .ofNat 4950, (0, .ofNat 0)), (false, .ofNat 6, (8, .ofNat 0)), (false, .ofNat 9000, (0, .ofNat 0)), (false, .ofNat 0, (0, .ofNat 0))])]
def qc168 : List qCt := qc168_0
set_option maxRecDepth 100000 in
theorem qe168 : qck0 yT1 [qs146, qs150, qs167] qP 20000 [] qc168 qs168 = true := by decide +kernel
set_option maxRecDepth 100000 in
theorem qf168_0 : qc168_0.all (qck1 yT1 [qs146, qs150, qs167] qP 20000 [] qc168 qs168) = true := by decide +kernel
set_option maxRecDepth 100000 in
theorem qo168 : qOK yT1 86 1471 qs168 := qck_ok (m := 6) (qall_c qo146 (qall_c qo150 (qall_c qo167 qall_n))) rfl qe168 qf168_0 (by decide +kernel) (by decide +kernel)
def qc169 : List qCt := []
set_option maxRecDepth 100000 in
theorem qe169 : qck0 yT1 [qs166, qs135, qs168] qP 20000 [] qc169 qs169 = true := by decide +kernel
set_option maxRecDepth 100000 in
theorem qo169 : qOK yT1 86 1471 qs169 := qck_ok (m := 0) (qall_c qo166 (qall_c qo135 (qall_c qo168 qall_n))) rfl qe169 rfl (by decide +kernel) (by decide +kernel)
def qc170 : List qCt := []
set_option maxRecDepth 100000 in
theorem qe170 : qck0 yT1 [qs166, qs135, qs168] qP 20000 [] qc170 qs170 = true := by decide +kernel
set_option maxRecDepth 100000 in
theorem qo170 : qOK yT1 86 1471 qs170 := qck_ok (m := 0) (qall_c qo166 (qall_c qo135 (qall_c qo168 qall_n))) rfl qe170 rfl (by decide +kernel) (by decide +kernel)
def qc171 : List qCt := []
set_option maxRecDepth 100000 in
theorem qe171 : qck0 yT1 [] qP 20000 [] qc171 qs171 = true := by decide +kernel
set_option maxRecDepth 100000 in
theorem qo171 : qOK yT1 86 1471 qs171 := qck_ok (m := 0) qall_n rfl qe171 rfl (by decide +kernel) (by decide +kernel)
def qc172 : List qCt := []
set_option maxRecDepth 100000 in
theorem qe172 : qck0 yT1 [qs171] qP 20000 [49, 61] qc172 qs172 = true := by decide +kernel
set_option maxRecDepth 100000 in
theorem qo172 : qOK yT1 86 1471 qs172 := qck_ok (m := 0) (qall_c qo171 qall_n) rfl qe172 rfl (by decide +kernel) (by decide +kernel)
def qc173 : List qCt := []
set_option maxRecDepth 100000 in
theorem qe173 : qck0 yT1 [] qP 20000 [] qc173 qs173 = true := by decide +kernel
set_option maxRecDepth 100000 in
theorem qo173 : qOK yT1 86 1471 qs173 := qck_ok (m := 0) qall_n rfl qe173 rfl (by decide +kernel) (by decide +kernel)
def qc174 : List qCt := []
set_option maxRecDepth 100000 in
theorem qe174 : qck0 yT1 [] qP 20000 [] qc174 qs174 = true := by decide +kernel
set_option maxRecDepth 100000 in
theorem qo174 : qOK yT1 86 1471 qs174 := qck_ok (m := 0) qall_n rfl qe174 rfl (by decide +kernel) (by decide +kernel)
def qc175_0 : List qCt := [((4, [[(.ofNat 0, .ofNat 0)], [(.ofNat 0, .ofNat 1)], [(.ofNat 0, .ofNat 6)]], [(0, .inr (.inr (.ref 71))), (1, .inl (1, .ofNat 0)), (2, .inl (2, .ofNat 0))], [], []), [], [(false, .ofNat 4996, (0, .ofNat 0)), (false, .ofNat 7, (2, .ofNat 0)), (false, .ofNat 9000, (0, .ofNat 0)), (false, .ofNat 0, (0, .ofNat 0))])]
def qc175 : List qCt := qc175_0
set_option maxRecDepth 100000 in
theorem qe175 : qck0 yT1 [] qP 20000 [26, 35] qc175 qs175 = true := by decide +kernel
set_option maxRecDepth 100000 in
theorem qf175_0 : qc175_0.all (qck1 yT1 [] qP 20000 [26, 35] qc175 qs175) = true := by decide +kernel
set_option maxRecDepth 100000 in
theorem qo175 : qOK yT1 86 1471 qs175 := qck_ok (m := 4) qall_n rfl qe175 qf175_0 (by decide +kernel) (by decide +kernel)
def qc176_0 : List qCt := [((4, [[(.ofNat 0, .ofNat 0)], [(.ofNat 0, .ofNat 4)], [(.negSucc 2147483647, .ofNat 2147483647)], [(.ofNat 0, .ofNat 21)]], [(0, .inr (.inr (.ref 71))), (1, .inl (1, .ofNat 0)), (2, .inl (2, .ofNat 0)), (3, .inl (3, .ofNat 0))], [], []), [], [(false, .ofNat 4996, (0, .ofNat 0)), (false, .ofNat 22, (3, .ofNat 0)), (false, .ofNat 9000, (0, .ofNat 0)), (false, .ofNat 0, (0, .ofNat 0)), (false, .ofNat 9000, (0, .ofNat 0)), (false, .ofNat 0, (0, .ofNat 0))]),
  ((65, [[(.ofNat 0, .ofNat 0)], [(.ofNat 0, .ofNat 4)], [(.negSucc 2147483647, .ofNat 2147483647)], [(.ofNat 0, .ofNat 20)], [(.ofNat 0, .ofNat 8)]], [(0, .inr (.inr (.ref 71))), (1, .inl (1, .ofNat 0)), (2, .inl (2, .ofNat 0)), (3, .inl (3, .ofNat 0)), (4, .inl (4, .ofNat 0))], [], []), [], [(false, .ofNat 4996, (0, .ofNat 0)), (false, .ofNat 22, (3, .ofNat 0)), (false, .ofNat 4935, (0, .ofNat 0)), (false, .ofNat 9, (4, .ofNat 0)), (false, .ofNat 9000, (0, .ofNat 0)), (false, .ofNat 0, (0, .ofNat 0))])]
def qc176 : List qCt := qc176_0
set_option maxRecDepth 100000 in
theorem qe176 : qck0 yT1 [qs146, qs150, qs175] qP 20000 [] qc176 qs176 = true := by decide +kernel
set_option maxRecDepth 100000 in
theorem qf176_0 : qc176_0.all (qck1 yT1 [qs146, qs150, qs175] qP 20000 [] qc176 qs176) = true := by decide +kernel
set_option maxRecDepth 100000 in
theorem qo176 : qOK yT1 86 1471 qs176 := qck_ok (m := 6) (qall_c qo146 (qall_c qo150 (qall_c qo175 qall_n))) rfl qe176 qf176_0 (by decide +kernel) (by decide +kernel)
def qc177_0 : List qCt := [((39, [[(.ofNat 0, .ofNat 0)], [(.ofNat 0, .ofNat 4)], [(.ofNat 0, .ofNat 2)], [(.negSucc 2147483647, .ofNat 2147483647)], [(.negSucc 3, .negSucc 3), (.ofNat 0, .ofNat 20)], [(.negSucc 3, .negSucc 3), (.ofNat 0, .ofNat 20)], [(.ofNat 0, .ofNat 21)], [(.ofNat 1, .ofNat 5)]], [(0, .inr (.inr (.ref 71))), (1, .inl (1, .ofNat 0)), (2, .inl (2, .ofNat 0)), (3, .inl (3, .ofNat 0)), (4, .inl (4, .ofNat 0)), (5, .inl (5, .ofNat 0)), (6, .inl (6, .ofNat 0))], [], [((71, 2), .inl (7, .ofNat 0))]), [], [(false, .ofNat 4961, (0, .ofNat 0)), (false, .ofNat 22, (6, .ofNat 0)), (false, .ofNat 9000, (0, .ofNat 0)), (false, .ofNat 0, (0, .ofNat 0))])]
def qc177 : List qCt := qc177_0
set_option maxRecDepth 100000 in
theorem qe177 : qck0 yT1 [qs174, qs176] qP 20000 [] qc177 qs177 = true := by decide +kernel
set_option maxRecDepth 100000 in
theorem qf177_0 : qc177_0.all (qck1 yT1 [qs174, qs176] qP 20000 [] qc177 qs177) = true := by decide +kernel
set_option maxRecDepth 100000 in
theorem qo177 : qOK yT1 86 1471 qs177 := qck_ok (m := 4) (qall_c qo174 (qall_c qo176 qall_n)) rfl qe177 qf177_0 (by decide +kernel) (by decide +kernel)
def qc178_0 : List qCt := [((4, [[(.ofNat 0, .ofNat 0)], [(.ofNat 0, .ofNat 32767)], [(.ofNat 0, .ofNat 10)]], [(0, .inr (.inr (.ref 71))), (1, .inl (1, .ofNat 0)), (2, .inl (2, .ofNat 0))], [], []), [], [(false, .ofNat 4996, (0, .ofNat 0)), (false, .ofNat 11, (2, .ofNat 0)), (false, .ofNat 9000, (0, .ofNat 0)), (false, .ofNat 0, (0, .ofNat 0))])]
def qc178 : List qCt := qc178_0
set_option maxRecDepth 100000 in
theorem qe178 : qck0 yT1 [qs146, qs150, qs175] qP 20000 [] qc178 qs178 = true := by decide +kernel
set_option maxRecDepth 100000 in
theorem qf178_0 : qc178_0.all (qck1 yT1 [qs146, qs150, qs175] qP 20000 [] qc178 qs178) = true := by decide +kernel
set_option maxRecDepth 100000 in
theorem qo178 : qOK yT1 86 1471 qs178 := qck_ok (m := 4) (qall_c qo146 (qall_c qo150 (qall_c qo175 qall_n))) rfl qe178 qf178_0 (by decide +kernel) (by decide +kernel)
def qc179_0 : List qCt := [((33, [[(.ofNat 0, .ofNat 0)], [(.ofNat 0, .ofNat 4)], [(.ofNat 0, .ofNat 1)], [(.negSucc 2147483647, .ofNat 2147483647)], [(.negSucc 3, .negSucc 3), (.ofNat 0, .ofNat 7)], [(.ofNat 0, .ofNat 8)], [(.ofNat 1, .ofNat 5)]], [(0, .inr (.inr (.ref 71))), (1, .inl (1, .ofNat 0)), (2, .inl (2, .ofNat 0)), (3, .inl (3, .ofNat 0)), (4, .inl (4, .ofNat 0)), (5, .inl (5, .ofNat 0))], [], [((71, 2), .inl (6, .ofNat 0))]), [], [(false, .ofNat 4967, (0, .ofNat 0)), (false, .ofNat 9, (5, .ofNat 0)), (false, .ofNat 9000, (0, .ofNat 0)), (false, .ofNat 0, (0, .ofNat 0)), (false, .ofNat 9000, (0, .ofNat 0)), (false, .ofNat 0, (0, .ofNat 0)), (false, .ofNat 9000, (0, .ofNat 0)), (false, .ofNat 0, (0, .ofNat 0))]),
  ((52, [[(.ofNat 0, .ofNat 0)], [(.ofNat 0, .ofNat 4)], [(.ofNat 0, .ofNat 1)], [(.negSucc 2147483647, .ofNat 2147483647)], [(.negSucc 3, .negSucc 3), (.ofNat 0, .ofNat 7)], [(.ofNat 0, .ofNat 7)], [(.ofNat 0, .ofNat 2147483647)], [(.negSucc 3, .ofNat 5)], [(.ofNat 1, .ofNat 8)], [(.ofNat 1, .ofNat 5)]], [(0, .inr (.inr (.ref 71))), (1, .inl (1, .ofNat 0)), (2, .inl (2, .ofNat 0)), (3, .inl (3, .ofNat 0)), (4, .inl (4, .ofNat 0)), (5, .inl (5, .ofNat 0)), (6, .inl (6, .ofNat 0)), (7, .inl (7, .ofNat 0))], [], [((72, 26), .inl (8, .ofNat 0)), ((71, 2), .inl (9, .ofNat 0))]), [], [(false, .ofNat 4967, (0, .ofNat 0)), (false, .ofNat 9, (5, .ofNat 0)), (false, .ofNat 4948, (0, .ofNat 0)), (false, .ofNat 6, (7, .ofNat 0)), (false, .ofNat 9000, (0, .ofNat 0)), (false, .ofNat 0, (0, .ofNat 0)), (false, .ofNat 9000, (0, .ofNat 0)), (false, .ofNat 0, (0, .ofNat 0))]),
  ((67, [[(.ofNat 0, .ofNat 0)], [(.ofNat 0, .ofNat 4)], [(.ofNat 0, .ofNat 1)], [(.negSucc 2147483647, .ofNat 2147483647)], [(.negSucc 3, .negSucc 3), (.ofNat 0, .ofNat 7)], [(.ofNat 0, .ofNat 7)], [(.ofNat 0, .ofNat 2147483647)], [(.negSucc 3, .ofNat 4)], [(.negSucc 2147483647, .ofNat 2147483647)], [(.ofNat 0, .ofNat 21)], [(.ofNat 1, .ofNat 8)], [(.ofNat 1, .ofNat 5)]], [(0, .inr (.inr (.ref 71))), (1, .inl (1, .ofNat 0)), (2, .inl (2, .ofNat 0)), (3, .inl (3, .ofNat 0)), (4, .inl (4, .ofNat 0)), (5, .inl (5, .ofNat 0)), (6, .inl (6, .ofNat 0)), (7, .inl (7, .ofNat 0)), (8, .inl (8, .ofNat 0)), (9, .inl (9, .ofNat 0))], [], [((72, 26), .inl (10, .ofNat 0)), ((71, 2), .inl (11, .ofNat 0))]), [], [(false, .ofNat 4967, (0, .ofNat 0)), (false, .ofNat 9, (5, .ofNat 0)), (false, .ofNat 4948, (0, .ofNat 0)), (false, .ofNat 6, (7, .ofNat 0)), (false, .ofNat 4933, (0, .ofNat 0)), (false, .ofNat 22, (9, .ofNat 0)), (false, .ofNat 9000, (0, .ofNat 0)), (false, .ofNat 0, (0, .ofNat 0))])]
def qc179 : List qCt := qc179_0
set_option maxRecDepth 100000 in
theorem qe179 : qck0 yT1 [qs135, qs176] qP 20000 [] qc179 qs179 = true := by decide +kernel
set_option maxRecDepth 100000 in
theorem qf179_0 : qc179_0.all (qck1 yT1 [qs135, qs176] qP 20000 [] qc179 qs179) = true := by decide +kernel
set_option maxRecDepth 100000 in
theorem qo179 : qOK yT1 86 1471 qs179 := qck_ok (m := 8) (qall_c qo135 (qall_c qo176 qall_n)) rfl qe179 qf179_0 (by decide +kernel) (by decide +kernel)
def qc180 : List qCt := []
set_option maxRecDepth 100000 in
theorem qe180 : qck0 yT1 [] qP 20000 [] qc180 qs180 = true := by decide +kernel
set_option maxRecDepth 100000 in
theorem qo180 : qOK yT1 86 1471 qs180 := qck_ok (m := 0) qall_n rfl qe180 rfl (by decide +kernel) (by decide +kernel)
def qc181_0 : List qCt := [((50, [[(.ofNat 0, .ofNat 0)], [(.negSucc 2147483647, .ofNat 2147483647)], [(.ofNat 1, .ofNat 60)], [(.ofNat 0, .ofNat 1)], [(.negSucc 2147483647, .ofNat 2147483647)], [(.negSucc 2147483647, .ofNat 2147483647)], [(.ofNat 0, .ofNat 60)], [(.ofNat 1, .ofNat 5)]], [(0, .inr (.inr (.ref 71))), (1, .inl (1, .ofNat 0)), (2, .inl (2, .ofNat 0)), (3, .inl (3, .ofNat 0)), (4, .inl (4, .ofNat 0)), (5, .inl (5, .ofNat 0)), (6, .inl (6, .ofNat 0))], [], [((71, 2), .inl (7, .ofNat 0))]), [], [(false, .ofNat 4950, (0, .ofNat 0)), (false, .ofNat 61, (6, .ofNat 0)), (false, .ofNat 9000, (0, .ofNat 0)), (false, .ofNat 0, (0, .ofNat 0))])]
def qc181 : List qCt := qc181_0
set_option maxRecDepth 100000 in
theorem qe181 : qck0 yT1 [qs180, qs135, qs146, qs148, qs151] qP 20000 [] qc181 qs181 = true := by decide +kernel
set_option maxRecDepth 100000 in
theorem qf181_0 : qc181_0.all (qck1 yT1 [qs180, qs135, qs146, qs148, qs151] qP 20000 [] qc181 qs181) = true := by decide +kernel
set_option maxRecDepth 100000 in
theorem qo181 : qOK yT1 86 1471 qs181 := qck_ok (m := 4) (qall_c qo180 (qall_c qo135 (qall_c qo146 (qall_c qo148 (qall_c qo151 qall_n))))) rfl qe181 qf181_0 (by decide +kernel) (by decide +kernel)
def qc182 : List qCt := []
set_option maxRecDepth 100000 in
theorem qe182 : qck0 yT1 [] qP 20000 [] qc182 qs182 = true := by decide +kernel
set_option maxRecDepth 100000 in
theorem qo182 : qOK yT1 86 1471 qs182 := qck_ok (m := 0) qall_n rfl qe182 rfl (by decide +kernel) (by decide +kernel)
def qc183 : List qCt := []
set_option maxRecDepth 100000 in
theorem qe183 : qck0 yT1 [] qP 20000 [] qc183 qs183 = true := by decide +kernel
set_option maxRecDepth 100000 in
theorem qo183 : qOK yT1 86 1471 qs183 := qck_ok (m := 0) qall_n rfl qe183 rfl (by decide +kernel) (by decide +kernel)
def qc184 : List qCt := []
set_option maxRecDepth 100000 in
theorem qe184 : qck0 yT1 [qs135, qs182, qs183] qP 20000 [19] qc184 qs184 = true := by decide +kernel
set_option maxRecDepth 100000 in
theorem qo184 : qOK yT1 86 1471 qs184 := qck_ok (m := 0) (qall_c qo135 (qall_c qo182 (qall_c qo183 qall_n))) rfl qe184 rfl (by decide +kernel) (by decide +kernel)
def qc185 : List qCt := []
set_option maxRecDepth 100000 in
theorem qe185 : qck0 yT1 [] qP 20000 [] qc185 qs185 = true := by decide +kernel
set_option maxRecDepth 100000 in
theorem qo185 : qOK yT1 86 1471 qs185 := qck_ok (m := 0) qall_n rfl qe185 rfl (by decide +kernel) (by decide +kernel)
def qc186 : List qCt := []
set_option maxRecDepth 100000 in
theorem qe186 : qck0 yT1 [] qP 20000 [] qc186 qs186 = true := by decide +kernel
set_option maxRecDepth 100000 in
theorem qo186 : qOK yT1 86 1471 qs186 := qck_ok (m := 0) qall_n rfl qe186 rfl (by decide +kernel) (by decide +kernel)
def qc187 : List qCt := []
set_option maxRecDepth 100000 in
theorem qe187 : qck0 yT1 [qs135, qs185, qs186] qP 20000 [30] qc187 qs187 = true := by decide +kernel
set_option maxRecDepth 100000 in
theorem qo187 : qOK yT1 86 1471 qs187 := qck_ok (m := 0) (qall_c qo135 (qall_c qo185 (qall_c qo186 qall_n))) rfl qe187 rfl (by decide +kernel) (by decide +kernel)
def qc188_0 : List qCt := [((56, [[(.ofNat 0, .ofNat 0)], [(.ofNat 0, .ofNat 3)], [(.ofNat 0, .ofNat 2)], [(.ofNat 0, .ofNat 40)], [(.ofNat 0, .ofNat 40)]], [(0, .inr (.inr (.ref 71))), (1, .inl (1, .ofNat 0)), (2, .inl (2, .ofNat 0)), (3, .inl (3, .ofNat 0)), (4, .inl (4, .ofNat 0))], [], []), [], [(false, .ofNat 4944, (0, .ofNat 0)), (false, .ofNat 41, (4, .ofNat 0)), (false, .ofNat 9000, (0, .ofNat 0)), (false, .ofNat 0, (0, .ofNat 0))])]
def qc188 : List qCt := qc188_0
set_option maxRecDepth 100000 in
theorem qe188 : qck0 yT1 [qs134, qs174] qP 20000 [] qc188 qs188 = true := by decide +kernel
set_option maxRecDepth 100000 in
theorem qf188_0 : qc188_0.all (qck1 yT1 [qs134, qs174] qP 20000 [] qc188 qs188) = true := by decide +kernel
set_option maxRecDepth 100000 in
theorem qo188 : qOK yT1 86 1471 qs188 := qck_ok (m := 4) (qall_c qo134 (qall_c qo174 qall_n)) rfl qe188 qf188_0 (by decide +kernel) (by decide +kernel)
def qc189 : List qCt := []
set_option maxRecDepth 100000 in
theorem qe189 : qck0 yT1 [qs134] qP 20000 [] qc189 qs189 = true := by decide +kernel
set_option maxRecDepth 100000 in
theorem qo189 : qOK yT1 86 1471 qs189 := qck_ok (m := 0) (qall_c qo134 qall_n) rfl qe189 rfl (by decide +kernel) (by decide +kernel)
def qc190 : List qCt := []
set_option maxRecDepth 100000 in
theorem qe190 : qck0 yT1 [] qP 20000 [] qc190 qs190 = true := by decide +kernel
set_option maxRecDepth 100000 in
theorem qo190 : qOK yT1 86 1471 qs190 := qck_ok (m := 0) qall_n rfl qe190 rfl (by decide +kernel) (by decide +kernel)
def qc191 : List qCt := []
set_option maxRecDepth 100000 in
theorem qe191 : qck0 yT1 [] qP 20000 [] qc191 qs191 = true := by decide +kernel
set_option maxRecDepth 100000 in
theorem qo191 : qOK yT1 86 1471 qs191 := qck_ok (m := 0) qall_n rfl qe191 rfl (by decide +kernel) (by decide +kernel)
def qc192 : List qCt := []
set_option maxRecDepth 100000 in
theorem qe192 : qck0 yT1 [] qP 20000 [] qc192 qs192 = true := by decide +kernel
set_option maxRecDepth 100000 in
theorem qo192 : qOK yT1 86 1471 qs192 := qck_ok (m := 0) qall_n rfl qe192 rfl (by decide +kernel) (by decide +kernel)
