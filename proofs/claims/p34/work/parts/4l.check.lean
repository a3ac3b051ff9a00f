/-! the methods are as their summaries say, 11 -/
def qc164 : List qCt := []
set_option maxRecDepth 100000 in
theorem qe164 : qck0 yT1 [] qP 20000 [] qc164 qs164 = true := by decide +kernel
set_option maxRecDepth 100000 in
theorem qo164 : qOK yT1 86 1471 qs164 := qck_ok (m := 0) qall_n rfl qe164 rfl (by decide +kernel) (by decide +kernel)
def qc165_0 : List qCt := [((7, [[(0, 0)], [((-2147483648), 2147483647)], [((-2147483648), 2147483647)], [((-2147483648), 2147483647)], [(0, 5)]], [(0, .inr (.inr (.ref 71))), (1, .inl (1, 0)), (2, .inl (2, 0)), (3, .inl (3, 0)), (4, .inl (4, 0))], [], []), [], [(false, 4993, (0, 0)), (false, 6, (4, 0)), (false, 9000, (0, 0)), (false, 0, (0, 0))])]
def qc165 : List qCt := qc165_0
set_option maxRecDepth 100000 in
theorem qe165 : qck0 yT1 [] qP 20000 [] qc165 qs165 = true := by decide +kernel
set_option maxRecDepth 100000 in
theorem qf165_0 : qc165_0.all (qck1 yT1 [] qP 20000 [] qc165 qs165) = true := by decide +kernel
set_option maxRecDepth 100000 in
theorem qo165 : qOK yT1 86 1471 qs165 := qck_ok (m := 4) qall_n rfl qe165 qf165_0 (by decide +kernel) (by decide +kernel)
