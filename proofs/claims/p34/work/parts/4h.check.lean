/-! the methods are as their summaries say, 7 -/
def qc95 : List qCt := []
set_option maxRecDepth 100000 in
theorem qe95 : qck0 yT1 [] qP 20000 [] qc95 qs95 = true := by decide +kernel
set_option maxRecDepth 100000 in
theorem qo95 : qOK yT1 86 1471 qs95 := qck_ok (m := 0) qall_n rfl qe95 rfl (by decide +kernel) (by decide +kernel)
def qc96_0 : List qCt := [((4, [[(0, 0)], [((-2147483648), 2147483647)], [(0, 5)]], [(0, .inr (.inr (.ref 11))), (1, .inl (1, 0)), (2, .inl (2, 0))], [], []), [], [(false, 4996, (0, 0)), (false, 6, (2, 0)), (false, 9000, (0, 0)), (false, 0, (0, 0))])]
def qc96 : List qCt := qc96_0
set_option maxRecDepth 100000 in
theorem qe96 : qck0 yT1 [] qP 20000 [] qc96 qs96 = true := by decide +kernel
set_option maxRecDepth 100000 in
theorem qf96_0 : qc96_0.all (qck1 yT1 [] qP 20000 [] qc96 qs96) = true := by decide +kernel
set_option maxRecDepth 100000 in
theorem qo96 : qOK yT1 86 1471 qs96 := qck_ok (m := 4) qall_n rfl qe96 qf96_0 (by decide +kernel) (by decide +kernel)
def qc97_0 : List qCt := [((4, [[(0, 0)], [((-2147483648), 2147483647)], [(0, 5)]], [(0, .inr (.inr (.ref 11))), (1, .inl (1, 0)), (2, .inl (2, 0))], [], []), [], [(false, 4996, (0, 0)), (false, 6, (2, 0)), (false, 9000, (0, 0)), (false, 0, (0, 0))])]
def qc97 : List qCt := qc97_0
set_option maxRecDepth 100000 in
theorem qe97 : qck0 yT1 [] qP 20000 [] qc97 qs97 = true := by decide +kernel
set_option maxRecDepth 100000 in
theorem qf97_0 : qc97_0.all (qck1 yT1 [] qP 20000 [] qc97 qs97) = true := by decide +kernel
set_option maxRecDepth 100000 in
theorem qo97 : qOK yT1 86 1471 qs97 := qck_ok (m := 4) qall_n rfl qe97 qf97_0 (by decide +kernel) (by decide +kernel)
def qc98 : List qCt := []
set_option maxRecDepth 100000 in
theorem qe98 : qck0 yT1 [qs96, qs97] qP 20000 [] qc98 qs98 = true := by decide +kernel
set_option maxRecDepth 100000 in
theorem qo98 : qOK yT1 86 1471 qs98 := qck_ok (m := 0) (qall_c qo96 (qall_c qo97 qall_n)) rfl qe98 rfl (by decide +kernel) (by decide +kernel)
def qc99 : List qCt := []
set_option maxRecDepth 100000 in
theorem qe99 : qck0 yT1 [] qP 20000 [] qc99 qs99 = true := by decide +kernel
set_option maxRecDepth 100000 in
theorem qo99 : qOK yT1 86 1471 qs99 := qck_ok (m := 0) qall_n rfl qe99 rfl (by decide +kernel) (by decide +kernel)
def qc100 : List qCt := []
set_option maxRecDepth 100000 in
theorem qe100 : qck0 yT1 [] qP 20000 [] qc100 qs100 = true := by decide +kernel
set_option maxRecDepth 100000 in
theorem qo100 : qOK yT1 86 1471 qs100 := qck_ok (m := 0) qall_n rfl qe100 rfl (by decide +kernel) (by decide +kernel)
def qc101_0 : List qCt := [((8, [[(0, 0)], [(0, 0)], [(0, 160)], [(0, 160)]], [(0, .inr (.inr (.ref 71)))], [], [((71, 12), .inl (3, 0)), ((71, 10), .inl (0, 0))]), [.inl (3, 2, 0)], [(false, 4992, (0, 0)), (false, 161, (3, 0)), (false, 9000, (0, 0)), (false, 0, (0, 0))]),
  ((115, [[(0, 0)], [(0, 0)], [(0, 160)], [(97, 122)], [(1, 160)], [(0, 159)], [(1, 160)]], [(0, .inr (.inr (.ref 71))), (1, .inl (3, 0))], [], [((71, 12), .inl (4, 0)), ((71, 15), .inl (0, 0)), ((71, 13), .inl (5, 0)), ((71, 8), .inl (6, 0)), ((71, 10), .inl (0, 0))]), [.inl (4, 2, 1), .inl (4, 5, 1)], [(false, 4885, (0, 0)), (false, 161, (4, 0)), (false, 9000, (0, 0)), (false, 0, (0, 0))]),
  ((214, [[(0, 0)], [(0, 0)], [(0, 160)], [(48, 57)], [(2, 160)], [(0, 158)], [(2, 160)]], [(0, .inr (.inr (.ref 71))), (1, .inl (3, 0))], [], [((71, 12), .inl (4, 0)), ((71, 13), .inl (5, 0)), ((71, 8), .inl (6, 0)), ((71, 10), .inl (0, 0))]), [.inl (4, 2, 1), .inl (4, 5, 2)], [(false, 4786, (0, 0)), (false, 161, (4, 0)), (false, 9000, (0, 0)), (false, 0, (0, 0))]),
  ((214, [[(0, 0)], [(0, 0)], [(0, 160)], [(48, 57)], [(1, 160)], [(1, 160)]], [(0, .inr (.inr (.ref 71))), (1, .inl (3, 0))], [], [((71, 12), .inl (4, 0)), ((71, 15), .inl (3, (-48))), ((71, 13), .inl (4, (-1))), ((71, 8), .inl (5, 0)), ((71, 10), .inl (0, 0))]), [.inl (4, 2, 1)], [(false, 4786, (0, 0)), (false, 161, (4, 0)), (false, 9000, (0, 0)), (false, 0, (0, 0))])]
def qc101 : List qCt := qc101_0
set_option maxRecDepth 100000 in
theorem qe101 : qck0 yT1 [] qP 20000 [] qc101 qs101 = true := by decide +kernel
set_option maxRecDepth 100000 in
theorem qf101_0 : qc101_0.all (qck1 yT1 [] qP 20000 [] qc101 qs101) = true := by decide +kernel
set_option maxRecDepth 100000 in
theorem qo101 : qOK yT1 86 1471 qs101 := qck_ok (m := 4) qall_n rfl qe101 qf101_0 (by decide +kernel) (by decide +kernel)
def qc102 : List qCt := []
set_option maxRecDepth 100000 in
theorem qe102 : qck0 yT1 [] qP 20000 [] qc102 qs102 = true := by decide +kernel
set_option maxRecDepth 100000 in
theorem qo102 : qOK yT1 86 1471 qs102 := qck_ok (m := 0) qall_n rfl qe102 rfl (by decide +kernel) (by decide +kernel)
def qc103 : List qCt := []
set_option maxRecDepth 100000 in
theorem qe103 : qck0 yT1 [qs101] qP 20000 [] qc103 qs103 = true := by decide +kernel
set_option maxRecDepth 100000 in
theorem qo103 : qOK yT1 86 1471 qs103 := qck_ok (m := 0) (qall_c qo101 qall_n) rfl qe103 rfl (by decide +kernel) (by decide +kernel)
def qc104 : List qCt := []
set_option maxRecDepth 100000 in
theorem qe104 : qck0 yT1 [qs101] qP 20000 [] qc104 qs104 = true := by decide +kernel
set_option maxRecDepth 100000 in
theorem qo104 : qOK yT1 86 1471 qs104 := qck_ok (m := 0) (qall_c qo101 qall_n) rfl qe104 rfl (by decide +kernel) (by decide +kernel)
def qc105 : List qCt := []
set_option maxRecDepth 100000 in
theorem qe105 : qck0 yT1 [qs101] qP 20000 [] qc105 qs105 = true := by decide +kernel
set_option maxRecDepth 100000 in
theorem qo105 : qOK yT1 86 1471 qs105 := qck_ok (m := 0) (qall_c qo101 qall_n) rfl qe105 rfl (by decide +kernel) (by decide +kernel)
def qc106 : List qCt := []
set_option maxRecDepth 100000 in
theorem qe106 : qck0 yT1 [qs101] qP 20000 [] qc106 qs106 = true := by decide +kernel
set_option maxRecDepth 100000 in
theorem qo106 : qOK yT1 86 1471 qs106 := qck_ok (m := 0) (qall_c qo101 qall_n) rfl qe106 rfl (by decide +kernel) (by decide +kernel)
