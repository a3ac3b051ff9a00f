/-! the methods are as their summaries say, 9 -/
def qc147_0 : List qCt := [((4, [[(0, 0)], [(0, 1)], [(0, 6)]], [(0, .inr (.inr (.ref 71))), (1, .inl (1, 0)), (2, .inl (2, 0))], [], []), [], [(false, 4996, (0, 0)), (false, 7, (2, 0)), (false, 9000, (0, 0)), (false, 0, (0, 0))])]
def qc147 : List qCt := qc147_0
set_option maxRecDepth 100000 in
theorem qe147 : qck0 yT1 [] qP 20000 [26, 35] qc147 qs147 = true := by decide +kernel
set_option maxRecDepth 100000 in
theorem qf147_0 : qc147_0.all (qck1 yT1 [] qP 20000 [26, 35] qc147 qs147) = true := by decide +kernel
set_option maxRecDepth 100000 in
theorem qo147 : qOK yT1 86 1471 qs147 := qck_ok (m := 4) qall_n rfl qe147 qf147_0 (by decide +kernel) (by decide +kernel)
def qc148_0 : List qCt := [((4, [[(0, 0)], [(0, 4)], [((-2147483648), 2147483647)], [(0, 21)]], [(0, .inr (.inr (.ref 71))), (1, .inl (1, 0)), (2, .inl (2, 0)), (3, .inl (3, 0))], [], []), [], [(false, 4996, (0, 0)), (false, 22, (3, 0)), (false, 9000, (0, 0)), (false, 0, (0, 0)), (false, 9000, (0, 0)), (false, 0, (0, 0))]),
  ((65, [[(0, 0)], [(0, 4)], [((-2147483648), 2147483647)], [(0, 20)], [(0, 8)]], [(0, .inr (.inr (.ref 71))), (1, .inl (1, 0)), (2, .inl (2, 0)), (3, .inl (3, 0)), (4, .inl (4, 0))], [], []), [], [(false, 4996, (0, 0)), (false, 22, (3, 0)), (false, 4935, (0, 0)), (false, 9, (4, 0)), (false, 9000, (0, 0)), (false, 0, (0, 0))])]
def qc148 : List qCt := qc148_0
set_option maxRecDepth 100000 in
theorem qe148 : qck0 yT1 [qs123, qs127, qs147] qP 20000 [] qc148 qs148 = true := by decide +kernel
set_option maxRecDepth 100000 in
theorem qf148_0 : qc148_0.all (qck1 yT1 [qs123, qs127, qs147] qP 20000 [] qc148 qs148) = true := by decide +kernel
set_option maxRecDepth 100000 in
theorem qo148 : qOK yT1 86 1471 qs148 := qck_ok (m := 6) (qall_c qo123 (qall_c qo127 (qall_c qo147 qall_n))) rfl qe148 qf148_0 (by decide +kernel) (by decide +kernel)
def qc149_0 : List qCt := [((39, [[(0, 0)], [(0, 4)], [(0, 2)], [((-2147483648), 2147483647)], [((-4), (-4)), (0, 20)], [((-4), (-4)), (0, 20)], [(0, 21)], [(1, 5)]], [(0, .inr (.inr (.ref 71))), (1, .inl (1, 0)), (2, .inl (2, 0)), (3, .inl (3, 0)), (4, .inl (4, 0)), (5, .inl (5, 0)), (6, .inl (6, 0))], [], [((71, 2), .inl (7, 0))]), [], [(false, 4961, (0, 0)), (false, 22, (6, 0)), (false, 9000, (0, 0)), (false, 0, (0, 0))])]
def qc149 : List qCt := qc149_0
set_option maxRecDepth 100000 in
theorem qe149 : qck0 yT1 [qs148] qP 20000 [] qc149 qs149 = true := by decide +kernel
set_option maxRecDepth 100000 in
theorem qf149_0 : qc149_0.all (qck1 yT1 [qs148] qP 20000 [] qc149 qs149) = true := by decide +kernel
set_option maxRecDepth 100000 in
theorem qo149 : qOK yT1 86 1471 qs149 := qck_ok (m := 4) (qall_c qo148 qall_n) rfl qe149 qf149_0 (by decide +kernel) (by decide +kernel)
def qc150_0 : List qCt := [((4, [[(0, 0)], [(0, 32767)], [(0, 10)]], [(0, .inr (.inr (.ref 71))), (1, .inl (1, 0)), (2, .inl (2, 0))], [], []), [], [(false, 4996, (0, 0)), (false, 11, (2, 0)), (false, 9000, (0, 0)), (false, 0, (0, 0))])]
def qc150 : List qCt := qc150_0
set_option maxRecDepth 100000 in
theorem qe150 : qck0 yT1 [qs123, qs127, qs147] qP 20000 [] qc150 qs150 = true := by decide +kernel
set_option maxRecDepth 100000 in
theorem qf150_0 : qc150_0.all (qck1 yT1 [qs123, qs127, qs147] qP 20000 [] qc150 qs150) = true := by decide +kernel
set_option maxRecDepth 100000 in
theorem qo150 : qOK yT1 86 1471 qs150 := qck_ok (m := 4) (qall_c qo123 (qall_c qo127 (qall_c qo147 qall_n))) rfl qe150 qf150_0 (by decide +kernel) (by decide +kernel)
def qc151_0 : List qCt := [((33, [[(0, 0)], [(0, 4)], [(0, 1)], [((-2147483648), 2147483647)], [((-4), (-4)), (0, 7)], [(0, 8)], [(1, 5)]], [(0, .inr (.inr (.ref 71))), (1, .inl (1, 0)), (2, .inl (2, 0)), (3, .inl (3, 0)), (4, .inl (4, 0)), (5, .inl (5, 0))], [], [((71, 2), .inl (6, 0))]), [], [(false, 4967, (0, 0)), (false, 9, (5, 0)), (false, 9000, (0, 0)), (false, 0, (0, 0)), (false, 9000, (0, 0)), (false, 0, (0, 0)), (false, 9000, (0, 0)), (false, 0, (0, 0))]),
  ((52, [[(0, 0)], [(0, 4)], [(0, 1)], [((-2147483648), 2147483647)], [((-4), (-4)), (0, 7)], [(0, 7)], [(0, 2147483647)], [((-4), 5)], [(1, 8)], [(1, 5)]], [(0, .inr (.inr (.ref 71))), (1, .inl (1, 0)), (2, .inl (2, 0)), (3, .inl (3, 0)), (4, .inl (4, 0)), (5, .inl (5, 0)), (6, .inl (6, 0)), (7, .inl (7, 0))], [], [((72, 26), .inl (8, 0)), ((71, 2), .inl (9, 0))]), [], [(false, 4967, (0, 0)), (false, 9, (5, 0)), (false, 4948, (0, 0)), (false, 6, (7, 0)), (false, 9000, (0, 0)), (false, 0, (0, 0)), (false, 9000, (0, 0)), (false, 0, (0, 0))]),
  ((67, [[(0, 0)], [(0, 4)], [(0, 1)], [((-2147483648), 2147483647)], [((-4), (-4)), (0, 7)], [(0, 7)], [(0, 2147483647)], [((-4), 4)], [((-2147483648), 2147483647)], [(0, 21)], [(1, 8)], [(1, 5)]], [(0, .inr (.inr (.ref 71))), (1, .inl (1, 0)), (2, .inl (2, 0)), (3, .inl (3, 0)), (4, .inl (4, 0)), (5, .inl (5, 0)), (6, .inl (6, 0)), (7, .inl (7, 0)), (8, .inl (8, 0)), (9, .inl (9, 0))], [], [((72, 26), .inl (10, 0)), ((71, 2), .inl (11, 0))]), [], [(false, 4967, (0, 0)), (false, 9, (5, 0)), (false, 4948, (0, 0)), (false, 6, (7, 0)), (false, 4933, (0, 0)), (false, 22, (9, 0)), (false, 9000, (0, 0)), (false, 0, (0, 0))])]
def qc151 : List qCt := qc151_0
set_option maxRecDepth 100000 in
theorem qe151 : qck0 yT1 [qs148] qP 20000 [] qc151 qs151 = true := by decide +kernel
set_option maxRecDepth 100000 in
theorem qf151_0 : qc151_0.all (qck1 yT1 [qs148] qP 20000 [] qc151 qs151) = true := by decide +kernel
set_option maxRecDepth 100000 in
theorem qo151 : qOK yT1 86 1471 qs151 := qck_ok (m := 8) (qall_c qo148 qall_n) rfl qe151 qf151_0 (by decide +kernel) (by decide +kernel)
def qc152_0 : List qCt := [((50, [[(0, 0)], [((-2147483648), 2147483647)], [(1, 60)], [(0, 1)], [((-2147483648), 2147483647)], [((-2147483648), 2147483647)], [(0, 60)], [(1, 5)]], [(0, .inr (.inr (.ref 71))), (1, .inl (1, 0)), (2, .inl (2, 0)), (3, .inl (3, 0)), (4, .inl (4, 0)), (5, .inl (5, 0)), (6, .inl (6, 0))], [], [((71, 2), .inl (7, 0))]), [], [(false, 4950, (0, 0)), (false, 61, (6, 0)), (false, 9000, (0, 0)), (false, 0, (0, 0))])]
def qc152 : List qCt := qc152_0
set_option maxRecDepth 100000 in
theorem qe152 : qck0 yT1 [qs123, qs125, qs128] qP 20000 [] qc152 qs152 = true := by decide +kernel
set_option maxRecDepth 100000 in
theorem qf152_0 : qc152_0.all (qck1 yT1 [qs123, qs125, qs128] qP 20000 [] qc152 qs152) = true := by decide +kernel
set_option maxRecDepth 100000 in
theorem qo152 : qOK yT1 86 1471 qs152 := qck_ok (m := 4) (qall_c qo123 (qall_c qo125 (qall_c qo128 qall_n))) rfl qe152 qf152_0 (by decide +kernel) (by decide +kernel)
def qc153 : List qCt := []
set_option maxRecDepth 100000 in
theorem qe153 : qck0 yT1 [] qP 20000 [] qc153 qs153 = true := by decide +kernel
set_option maxRecDepth 100000 in
theorem qo153 : qOK yT1 86 1471 qs153 := qck_ok (m := 0) qall_n rfl qe153 rfl (by decide +kernel) (by decide +kernel)
def qc154 : List qCt := []
set_option maxRecDepth 100000 in
theorem qe154 : qck0 yT1 [] qP 20000 [] qc154 qs154 = true := by decide +kernel
set_option maxRecDepth 100000 in
theorem qo154 : qOK yT1 86 1471 qs154 := qck_ok (m := 0) qall_n rfl qe154 rfl (by decide +kernel) (by decide +kernel)
def qc155 : List qCt := []
set_option maxRecDepth 100000 in
theorem qe155 : qck0 yT1 [qs153, qs154] qP 20000 [19] qc155 qs155 = true := by decide +kernel
set_option maxRecDepth 100000 in
theorem qo155 : qOK yT1 86 1471 qs155 := qck_ok (m := 0) (qall_c qo153 (qall_c qo154 qall_n)) rfl qe155 rfl (by decide +kernel) (by decide +kernel)
def qc156 : List qCt := []
set_option maxRecDepth 100000 in
theorem qe156 : qck0 yT1 [] qP 20000 [] qc156 qs156 = true := by decide +kernel
set_option maxRecDepth 100000 in
theorem qo156 : qOK yT1 86 1471 qs156 := qck_ok (m := 0) qall_n rfl qe156 rfl (by decide +kernel) (by decide +kernel)
def qc157 : List qCt := []
set_option maxRecDepth 100000 in
theorem qe157 : qck0 yT1 [] qP 20000 [] qc157 qs157 = true := by decide +kernel
set_option maxRecDepth 100000 in
theorem qo157 : qOK yT1 86 1471 qs157 := qck_ok (m := 0) qall_n rfl qe157 rfl (by decide +kernel) (by decide +kernel)
def qc158 : List qCt := []
set_option maxRecDepth 100000 in
theorem qe158 : qck0 yT1 [qs156, qs157] qP 20000 [30] qc158 qs158 = true := by decide +kernel
set_option maxRecDepth 100000 in
theorem qo158 : qOK yT1 86 1471 qs158 := qck_ok (m := 0) (qall_c qo156 (qall_c qo157 qall_n)) rfl qe158 rfl (by decide +kernel) (by decide +kernel)
def qc159_0 : List qCt := [((56, [[(0, 0)], [(0, 3)], [(0, 2)], [(0, 40)], [(0, 40)]], [(0, .inr (.inr (.ref 71))), (1, .inl (1, 0)), (2, .inl (2, 0)), (3, .inl (3, 0)), (4, .inl (4, 0))], [], []), [], [(false, 4944, (0, 0)), (false, 41, (4, 0)), (false, 9000, (0, 0)), (false, 0, (0, 0))])]
def qc159 : List qCt := qc159_0
set_option maxRecDepth 100000 in
theorem qe159 : qck0 yT1 [] qP 20000 [] qc159 qs159 = true := by decide +kernel
set_option maxRecDepth 100000 in
theorem qf159_0 : qc159_0.all (qck1 yT1 [] qP 20000 [] qc159 qs159) = true := by decide +kernel
set_option maxRecDepth 100000 in
theorem qo159 : qOK yT1 86 1471 qs159 := qck_ok (m := 4) qall_n rfl qe159 qf159_0 (by decide +kernel) (by decide +kernel)
def qc160 : List qCt := []
set_option maxRecDepth 100000 in
theorem qe160 : qck0 yT1 [] qP 20000 [] qc160 qs160 = true := by decide +kernel
set_option maxRecDepth 100000 in
theorem qo160 : qOK yT1 86 1471 qs160 := qck_ok (m := 0) qall_n rfl qe160 rfl (by decide +kernel) (by decide +kernel)
def qc161 : List qCt := []
set_option maxRecDepth 100000 in
theorem qe161 : qck0 yT1 [] qP 20000 [] qc161 qs161 = true := by decide +kernel
set_option maxRecDepth 100000 in
theorem qo161 : qOK yT1 86 1471 qs161 := qck_ok (m := 0) qall_n rfl qe161 rfl (by decide +kernel) (by decide +kernel)
def qc162 : List qCt := []
set_option maxRecDepth 100000 in
theorem qe162 : qck0 yT1 [] qP 20000 [] qc162 qs162 = true := by decide +kernel
set_option maxRecDepth 100000 in
theorem qo162 : qOK yT1 86 1471 qs162 := qck_ok (m := 0) qall_n rfl qe162 rfl (by decide +kernel) (by decide +kernel)
