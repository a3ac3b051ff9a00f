/-! the methods are as their summaries say, 3 -/
def qc105 : List qCt := []
set_option maxRecDepth 100000 in
theorem qe105 : qck0 yT1 [] qP 20000 [] qc105 qs105 = true := by decide +kernel
set_option maxRecDepth 100000 in
theorem qo105 : qOK yT1 86 1471 qs105 := qck_ok (m := 0) qall_n rfl qe105 rfl (by decide +kernel) (by decide +kernel)
def qc106_0 : List qCt := [((4, [[(.ofNat 0, .ofNat 0)], [(.negSucc 2147483647, .ofNat 2147483647)], [(.ofNat 0, .ofNat 5)]], [(0, .inr (.inr (.ref 11))), (1, .inl (1, .ofNat 0)), (2, .inl (2, .ofNat 0))], [], []), [], [(false, .ofNat 4996, (0, .ofNat 0)), (false, .ofNat 6, (2, .ofNat 0)), (false, .ofNat 9000, (0, .ofNat 0)), (false, .ofNat 0, (0, .ofNat 0))])]
def qc106 : List qCt := qc106_0
set_option maxRecDepth 100000 in
theorem qe106 : qck0 yT1 [] qP 20000 [] qc106 qs106 = true := by decide +kernel
set_option maxRecDepth 100000 in
theorem qf106_0 : qc106_0.all (qck1 yT1 [] qP 20000 [] qc106 qs106) = true := by decide +kernel
set_option maxRecDepth 100000 in
theorem qo106 : qOK yT1 86 1471 qs106 := qck_ok (m := 4) qall_n rfl qe106 qf106_0 (by decide +kernel) (by decide +kernel)
def qc107_0 : List qCt := [((4, [[(.ofNat 0, .ofNat 0)], [(.negSucc 2147483647, .ofNat 2147483647)], [(.ofNat 0, .ofNat 5)]], [(0, .inr (.inr (.ref 11))), (1, .inl (1, .ofNat 0)), (2, .inl (2, .ofNat 0))], [], []), [], [(false, .ofNat 4996, (0, .ofNat 0)), (false, .ofNat 6, (2, .ofNat 0)), (false, .ofNat 9000, (0, .ofNat 0)), (false, .ofNat 0, (0, .ofNat 0))])]
def qc107 : List qCt := qc107_0
set_option maxRecDepth 100000 in
theorem qe107 : qck0 yT1 [] qP 20000 [] qc107 qs107 = true := by decide +kernel
set_option maxRecDepth 100000 in
theorem qf107_0 : qc107_0.all (qck1 yT1 [] qP 20000 [] qc107 qs107) = true := by decide +kernel
set_option maxRecDepth 100000 in
theorem qo107 : qOK yT1 86 1471 qs107 := qck_ok (m := 4) qall_n rfl qe107 qf107_0 (by decide +kernel) (by decide +kernel)
def qc108 : List qCt := []
set_option maxRecDepth 100000 in
theorem qe108 : qck0 yT1 [qs106, qs107] qP 20000 [] qc108 qs108 = true := by decide +kernel
set_option maxRecDepth 100000 in
theorem qo108 : qOK yT1 86 1471 qs108 := qck_ok (m := 0) (qall_c qo106 (qall_c qo107 qall_n)) rfl qe108 rfl (by decide +kernel) (by decide +kernel)
def qc109 : List qCt := []
set_option maxRecDepth 100000 in
theorem qe109 : qck0 yT1 [] qP 20000 [] qc109 qs109 = true := by decide +kernel
set_option maxRecDepth 100000 in
theorem qo109 : qOK yT1 86 1471 qs109 := qck_ok (m := 0) qall_n rfl qe109 rfl (by decide +kernel) (by decide +kernel)
def qc110 : List qCt := []
set_option maxRecDepth 100000 in
theorem qe110 : qck0 yT1 [qs109] qP 20000 [] qc110 qs110 = true := by decide +kernel
set_option maxRecDepth 100000 in
theorem qo110 : qOK yT1 86 1471 qs110 := qck_ok (m := 0) (qall_c qo109 qall_n) rfl qe110 rfl (by decide +kernel) (by decide +kernel)
def qc111 : List qCt := []
set_option maxRecDepth 100000 in
theorem qe111 : qck0 yT1 [] qP 20000 [] qc111 qs111 = true := by decide +kernel
set_option maxRecDepth 100000 in
theorem qo111 : qOK yT1 86 1471 qs111 := qck_ok (m := 0) qall_n rfl qe111 rfl (by decide +kernel) (by decide +kernel)
def qc112 : List qCt := []
set_option maxRecDepth 100000 in
theorem qe112 : qck0 yT1 [] qP 20000 [] qc112 qs112 = true := by decide +kernel
set_option maxRecDepth 100000 in
theorem qo112 : qOK yT1 86 1471 qs112 := qck_ok (m := 0) qall_n rfl qe112 rfl (by decide +kernel) (by decide +kernel)
def qc113 : List qCt := []
set_option maxRecDepth 100000 in
theorem qe113 : qck0 yT1 [] qP 20000 [] qc113 qs113 = true := by decide +kernel
set_option maxRecDepth 100000 in
theorem qo113 : qOK yT1 86 1471 qs113 := qck_ok (m := 0) qall_n rfl qe113 rfl (by decide +kernel) (by decide +kernel)
def qc114_0 : List qCt := [((8, [[(.ofNat 0, .ofNat 0)], [(.ofNat 0, .ofNat 0)], [(.ofNat 0, .ofNat 160)], [(.ofNat 0, .ofNat 160)]], [(0, .inr (.inr (.ref 71)))], [], [((71, 12), .inl (3, .ofNat 0)), ((71, 10), .inl (0, .ofNat 0))]), [.inl (3, 2, .ofNat 0)], [(false, .ofNat 4992, (0, .ofNat 0)), (false, .ofNat 161, (3, .ofNat 0)), (false, .ofNat 9000, (0, .ofNat 0)), (false, .ofNat 0, (0, .ofNat 0))]),
  ((115, [[(.ofNat 0, .ofNat 0)], [(.ofNat 0, .ofNat 0)], [(.ofNat 0, .ofNat 160)], [(.ofNat 97, .ofNat 122)], [(.ofNat 1, .ofNat 160)], [(.ofNat 0, .ofNat 159)], [(.ofNat 1, .ofNat 160)]], [(0, .inr (.inr (.ref 71))), (1, .inl (3, .ofNat 0))], [], [((71, 12), .inl (4, .ofNat 0)), ((71, 15), .inl (0, .ofNat 0)), ((71, 13), .inl (5, .ofNat 0)), ((71, 8), .inl (6, .ofNat 0)), ((71, 10), .inl (0, .ofNat 0))]), [.inl (4, 2, .ofNat 1), .inl (4, 5, .ofNat 1)], [(false, .ofNat 4885, (0, .ofNat 0)), (false, .ofNat 161, (4, .ofNat 0)), (false, .ofNat 9000, (0, .ofNat 0)), (false, .ofNat 0, (0, .ofNat 0))]),
  ((214, [[(.ofNat 0, .ofNat 0)], [(.ofNat 0, .ofNat 0)], [(.ofNat 0, .ofNat 160)], [(.ofNat 48, .ofNat 57)], [(.ofNat 2, .ofNat 160)], [(.ofNat 0, .ofNat 158)], [(.ofNat 2, .ofNat 160)]], [(0, .inr (.inr (.ref 71))), (1, .inl (3, .ofNat 0))], [], [((71, 12), .inl (4, .ofNat 0)), ((71, 13), .inl (5, .ofNat 0)), ((71, 8), .inl (6, .ofNat 0)), ((71, 10), .inl (0, .ofNat 0))]), [.inl (4, 2, .ofNat 1), .inl (4, 5, .ofNat 2)], [(false, .ofNat 4786, (0, .ofNat 0)), (false, .ofNat 161, (4, .ofNat 0)), (false, .ofNat 9000, (0, .ofNat 0)), (false, .ofNat 0, (0, .ofNat 0))]),
  ((214, [[(.ofNat 0, .ofNat 0)], [(.ofNat 0, .ofNat 0)], [(.ofNat 0, .ofNat 160)], [(.ofNat 48, .ofNat 57)], [(.ofNat 1, .ofNat 160)], [(.ofNat 1, .ofNat 160)]], [(0, .inr (.inr (.ref 71))), (1, .inl (3, .ofNat 0))], [], [((71, 12), .inl (4, .ofNat 0)), ((71, 15), .inl (3, .negSucc 47)), ((71, 13), .inl (4, .negSucc 0)), ((71, 8), .inl (5, .ofNat 0)), ((71, 10), .inl (0, .ofNat 0))]), [.inl (4, 2, .ofNat 1)], [(false, .ofNat 4786, (0, .ofNat 0)), (false, .ofNat 161, (4, .ofNat 0)), (false, .ofNat 9000, (0, .ofNat 0)), (false, .ofNat 0, (0, .ofNat 0))])]
def qc114 : List qCt := qc114_0
set_option maxRecDepth 100000 in
theorem qe114 : qck0 yT1 [qs112, qs113] qP 20000 [] qc114 qs114 = true := by decide +kernel
set_option maxRecDepth 100000 in
theorem qf114_0 : qc114_0.all (qck1 yT1 [qs112, qs113] qP 20000 [] qc114 qs114) = true := by decide +kernel
set_option maxRecDepth 100000 in
theorem qo114 : qOK yT1 86 1471 qs114 := qck_ok (m := 4) (qall_c qo112 (qall_c qo113 qall_n)) rfl qe114 qf114_0 (by decide +kernel) (by decide +kernel)
def qc115_0 : List qCt := [((2, [[(.ofNat 0, .ofNat 0)]], [(0, .inr (.inr (.ref 71))), (1, .inl (0, .ofNat 0))], [], []), [], [(false, .ofNat 4998, (0, .ofNat 0)), (false, .ofNat 8, (0, .ofNat 0)), (false, .ofNat 9000, (0, .ofNat 0)), (false, .ofNat 0, (0, .ofNat 0))]),
  ((2, [[(.ofNat 0, .ofNat 0)], [(.ofNat 0, .ofNat 5)]], [(0, .inr (.inr (.ref 71))), (1, .inl (0, .ofNat 1)), (2, .inl (0, .ofNat 0)), (3, .inl (1, .ofNat 0))], [], [((71, 14), .inl (0, .ofNat 1))]), [], [(false, .ofNat 4998, (0, .ofNat 0)), (false, .ofNat 8, (0, .ofNat 1)), (false, .ofNat 9000, (0, .ofNat 0)), (false, .ofNat 0, (0, .ofNat 0))]),
  ((2, [[(.ofNat 0, .ofNat 0)], [(.ofNat 0, .ofNat 6)]], [(0, .inr (.inr (.ref 71))), (1, .inl (0, .ofNat 2)), (2, .inl (0, .ofNat 0)), (3, .inl (1, .ofNat 0))], [], [((71, 14), .inl (0, .ofNat 1))]), [], [(false, .ofNat 4998, (0, .ofNat 0)), (false, .ofNat 8, (0, .ofNat 2)), (false, .ofNat 9000, (0, .ofNat 0)), (false, .ofNat 0, (0, .ofNat 0))])]
def qc115_1 : List qCt := [((2, [[(.ofNat 0, .ofNat 0)], [(.ofNat 0, .ofNat 5)]], [(0, .inr (.inr (.ref 71))), (1, .inl (0, .ofNat 3)), (2, .inl (0, .ofNat 0)), (3, .inl (1, .ofNat 0))], [], [((71, 14), .inl (0, .ofNat 1))]), [], [(false, .ofNat 4998, (0, .ofNat 0)), (false, .ofNat 8, (0, .ofNat 3)), (false, .ofNat 9000, (0, .ofNat 0)), (false, .ofNat 0, (0, .ofNat 0))]),
  ((2, [[(.ofNat 0, .ofNat 0)], [(.ofNat 0, .ofNat 6)]], [(0, .inr (.inr (.ref 71))), (1, .inl (0, .ofNat 4)), (2, .inl (0, .ofNat 0)), (3, .inl (1, .ofNat 0))], [], [((71, 14), .inl (0, .ofNat 1))]), [], [(false, .ofNat 4998, (0, .ofNat 0)), (false, .ofNat 8, (0, .ofNat 4)), (false, .ofNat 9000, (0, .ofNat 0)), (false, .ofNat 0, (0, .ofNat 0))]),
  ((2, [[(.ofNat 0, .ofNat 0)], [(.ofNat 0, .ofNat 4)]], [(0, .inr (.inr (.ref 71))), (1, .inl (0, .ofNat 5)), (2, .inl (0, .ofNat 0)), (3, .inl (1, .ofNat 0))], [], [((71, 14), .inl (0, .ofNat 1))]), [], [(false, .ofNat 4998, (0, .ofNat 0)), (false, .ofNat 8, (0, .ofNat 5)), (false, .ofNat 9000, (0, .ofNat 0)), (false, .ofNat 0, (0, .ofNat 0))])]
def qc115_2 : List qCt := [((2, [[(.ofNat 0, .ofNat 0)], [(.ofNat 0, .ofNat 5)]], [(0, .inr (.inr (.ref 71))), (1, .inl (0, .ofNat 6)), (2, .inl (0, .ofNat 0)), (3, .inl (1, .ofNat 0))], [], [((71, 14), .inl (0, .ofNat 1))]), [], [(false, .ofNat 4998, (0, .ofNat 0)), (false, .ofNat 8, (0, .ofNat 6)), (false, .ofNat 9000, (0, .ofNat 0)), (false, .ofNat 0, (0, .ofNat 0))]),
  ((2, [[(.ofNat 0, .ofNat 0)], [(.ofNat 0, .ofNat 4)]], [(0, .inr (.inr (.ref 71))), (1, .inl (0, .ofNat 7)), (2, .inl (0, .ofNat 0)), (3, .inl (1, .ofNat 0))], [], [((71, 14), .inl (0, .ofNat 1))]), [], [(false, .ofNat 4998, (0, .ofNat 0)), (false, .ofNat 8, (0, .ofNat 7)), (false, .ofNat 9000, (0, .ofNat 0)), (false, .ofNat 0, (0, .ofNat 0))])]
def qc115 : List qCt := qc115_0 ++ qc115_1 ++ qc115_2
set_option maxRecDepth 100000 in
theorem qe115 : qck0 yT1 [] qP 20000 [] qc115 qs115 = true := by decide +kernel
set_option maxRecDepth 100000 in
theorem qf115_0 : qc115_0.all (qck1 yT1 [] qP 20000 [] qc115 qs115) = true := by decide +kernel
set_option maxRecDepth 100000 in
theorem qf115_1 : qc115_1.all (qck1 yT1 [] qP 20000 [] qc115 qs115) = true := by decide +kernel
set_option maxRecDepth 100000 in
theorem qf115_2 : qc115_2.all (qck1 yT1 [] qP 20000 [] qc115 qs115) = true := by decide +kernel
set_option maxRecDepth 100000 in
theorem qo115 : qOK yT1 86 1471 qs115 := qck_ok (m := 4) qall_n rfl qe115 (by unfold qc115; simp only [List.all_append, Bool.and_eq_true]; exact ⟨⟨qf115_0, qf115_1⟩, qf115_2⟩) (by decide +kernel) (by decide +kernel)
def qc116 : List qCt := []
set_option maxRecDepth 100000 in
theorem qe116 : qck0 yT1 [] qP 20000 [] qc116 qs116 = true := by decide +kernel
set_option maxRecDepth 100000 in
theorem qo116 : qOK yT1 86 1471 qs116 := qck_ok (m := 0) qall_n rfl qe116 rfl (by decide +kernel) (by decide +kernel)
def qc117 : List qCt := []
set_option maxRecDepth 100000 in
theorem qe117 : qck0 yT1 [] qP 20000 [] qc117 qs117 = true := by decide +kernel
set_option maxRecDepth 100000 in
theorem qo117 : qOK yT1 86 1471 qs117 := qck_ok (m := 0) qall_n rfl qe117 rfl (by decide +kernel) (by decide +kernel)
def qc118 : List qCt := []
set_option maxRecDepth 100000 in
theorem qe118 : qck0 yT1 [qs114, qs117] qP 20000 [] qc118 qs118 = true := by decide +kernel
set_option maxRecDepth 100000 in
theorem qo118 : qOK yT1 86 1471 qs118 := qck_ok (m := 0) (qall_c qo114 (qall_c qo117 qall_n)) rfl qe118 rfl (by decide +kernel) (by decide +kernel)
def qc119 : List qCt := []
set_option maxRecDepth 100000 in
theorem qe119 : qck0 yT1 [] qP 20000 [] qc119 qs119 = true := by decide +kernel
set_option maxRecDepth 100000 in
theorem qo119 : qOK yT1 86 1471 qs119 := qck_ok (m := 0) qall_n rfl qe119 rfl (by decide +kernel) (by decide +kernel)
def qc120 : List qCt := []
set_option maxRecDepth 100000 in
theorem qe120 : qck0 yT1 [qs114, qs119] qP 20000 [] qc120 qs120 = true := by decide +kernel
set_option maxRecDepth 100000 in
theorem qo120 : qOK yT1 86 1471 qs120 := qck_ok (m := 0) (qall_c qo114 (qall_c qo119 qall_n)) rfl qe120 rfl (by decide +kernel) (by decide +kernel)
def qc121 : List qCt := []
set_option maxRecDepth 100000 in
theorem qe121 : qck0 yT1 [] qP 20000 [] qc121 qs121 = true := by decide +kernel
set_option maxRecDepth 100000 in
theorem qo121 : qOK yT1 86 1471 qs121 := qck_ok (m := 0) qall_n rfl qe121 rfl (by decide +kernel) (by decide +kernel)
def qc122 : List qCt := []
set_option maxRecDepth 100000 in
theorem qe122 : qck0 yT1 [qs114, qs121] qP 20000 [] qc122 qs122 = true := by decide +kernel
set_option maxRecDepth 100000 in
theorem qo122 : qOK yT1 86 1471 qs122 := qck_ok (m := 0) (qall_c qo114 (qall_c qo121 qall_n)) rfl qe122 rfl (by decide +kernel) (by decide +kernel)
def qc123 : List qCt := []
set_option maxRecDepth 100000 in
theorem qe123 : qck0 yT1 [] qP 20000 [] qc123 qs123 = true := by decide +kernel
set_option maxRecDepth 100000 in
theorem qo123 : qOK yT1 86 1471 qs123 := qck_ok (m := 0) qall_n rfl qe123 rfl (by decide +kernel) (by decide +kernel)
def qc124 : List qCt := []
set_option maxRecDepth 100000 in
theorem qe124 : qck0 yT1 [qs114, qs123] qP 20000 [] qc124 qs124 = true := by decide +kernel
set_option maxRecDepth 100000 in
theorem qo124 : qOK yT1 86 1471 qs124 := qck_ok (m := 0) (qall_c qo114 (qall_c qo123 qall_n)) rfl qe124 rfl (by decide +kernel) (by decide +kernel)
def qc125_0 : List qCt := [((0, [[(.ofNat 0, .ofNat 0)], [(.ofNat 0, .ofNat 0)], [(.ofNat 0, .ofNat 160)], [(.ofNat 2, .ofNat 2)], [(.ofNat 0, .ofNat 31)], [(.ofNat 1, .ofNat 8)], [(.ofNat 0, .ofNat 160)]], [(0, .inr (.inr (.ref 71))), (1, .inl (4, .ofNat 0))], [], [((74, 26), .inl (5, .ofNat 0)), ((71, 14), .inl (0, .ofNat 0)), ((71, 12), .inl (6, .ofNat 0)), ((71, 10), .inl (0, .ofNat 0))]), [.inl (6, 2, .ofNat 0)], [(false, .ofNat 5000, (0, .ofNat 0)), (false, .ofNat 7, (0, .ofNat 0)), (false, .ofNat 9, (5, .ofNat 0)), (false, .ofNat 9000, (0, .ofNat 0)), (false, .ofNat 0, (0, .ofNat 0)), (false, .ofNat 0, (0, .ofNat 0))]),
  ((0, [[(.ofNat 0, .ofNat 0)], [(.ofNat 0, .ofNat 0)], [(.ofNat 0, .ofNat 160)], [(.ofNat 2, .ofNat 2)], [(.ofNat 0, .ofNat 31)], [(.ofNat 1, .ofNat 8)], [(.ofNat 1, .ofNat 160)]], [(0, .inr (.inr (.ref 71))), (1, .inl (4, .ofNat 0))], [], [((74, 26), .inl (5, .ofNat 0)), ((71, 14), .inl (0, .ofNat 1)), ((71, 12), .inl (6, .ofNat 0)), ((71, 10), .inl (0, .ofNat 0))]), [.inl (6, 2, .ofNat 1)], [(false, .ofNat 5000, (0, .ofNat 0)), (false, .ofNat 7, (0, .ofNat 0)), (false, .ofNat 9, (5, .ofNat 0)), (false, .ofNat 9000, (0, .ofNat 0)), (false, .ofNat 0, (0, .ofNat 0)), (false, .ofNat 0, (0, .ofNat 0))]),
  ((0, [[(.ofNat 0, .ofNat 0)], [(.ofNat 0, .ofNat 0)], [(.ofNat 0, .ofNat 160)], [(.ofNat 2, .ofNat 2)], [(.ofNat 0, .ofNat 31)], [(.ofNat 1, .ofNat 8)], [(.ofNat 1, .ofNat 160)]], [(0, .inr (.inr (.ref 71))), (1, .inl (4, .ofNat 0))], [], [((74, 26), .inl (5, .ofNat 0)), ((71, 14), .inl (0, .ofNat 2)), ((71, 12), .inl (6, .ofNat 0)), ((71, 10), .inl (0, .ofNat 0))]), [.inl (6, 2, .ofNat 1)], [(false, .ofNat 5000, (0, .ofNat 0)), (false, .ofNat 7, (0, .ofNat 0)), (false, .ofNat 9, (5, .ofNat 0)), (false, .ofNat 9000, (0, .ofNat 0)), (false, .ofNat 0, (0, .ofNat 0)), (false, .ofNat 0, (0, .ofNat 0))]),
  ((0, [[(.ofNat 0, .ofNat 0)], [(.ofNat 0, .ofNat 0)], [(.ofNat 0, .ofNat 160)], [(.ofNat 2, .ofNat 2)], [(.ofNat 0, .ofNat 31)], [(.ofNat 1, .ofNat 8)], [(.ofNat 1, .ofNat 160)]], [(0, .inr (.inr (.ref 71))), (1, .inl (4, .ofNat 0))], [], [((74, 26), .inl (5, .ofNat 0)), ((71, 12), .inl (6, .ofNat 0)), ((71, 14), .inl (0, .ofNat 3)), ((71, 10), .inl (0, .ofNat 0))]), [.inl (6, 2, .ofNat 1)], [(false, .ofNat 5000, (0, .ofNat 0)), (false, .ofNat 7, (0, .ofNat 0)), (false, .ofNat 9, (5, .ofNat 0)), (false, .ofNat 9000, (0, .ofNat 0)), (false, .ofNat 0, (0, .ofNat 0)), (false, .ofNat 0, (0, .ofNat 0))]),
  ((0, [[(.ofNat 0, .ofNat 0)], [(.ofNat 0, .ofNat 0)], [(.ofNat 0, .ofNat 160)], [(.ofNat 2, .ofNat 2)], [(.ofNat 1, .ofNat 8)], [(.ofNat 1, .ofNat 1), (.ofNat 5, .ofNat 5)], [(.ofNat 0, .ofNat 160)]], [(0, .inr (.inr (.ref 71)))], [], [((74, 26), .inl (4, .ofNat 0)), ((71, 10), .inl (5, .ofNat 0)), ((71, 14), .inl (0, .ofNat 2)), ((71, 12), .inl (6, .ofNat 0))]), [.inl (6, 2, .ofNat 0)], [(false, .ofNat 5000, (0, .ofNat 0)), (false, .ofNat 7, (5, .ofNat 0)), (false, .ofNat 9, (4, .ofNat 0)), (false, .ofNat 9000, (0, .ofNat 0)), (false, .ofNat 0, (0, .ofNat 0)), (false, .ofNat 0, (0, .ofNat 0))]),
  ((0, [[(.ofNat 0, .ofNat 0)], [(.ofNat 0, .ofNat 0)], [(.ofNat 0, .ofNat 160)], [(.ofNat 2, .ofNat 2)], [(.ofNat 0, .ofNat 31)], [(.ofNat 1, .ofNat 8)], [(.ofNat 1, .ofNat 160)]], [(0, .inr (.inr (.ref 71))), (1, .inl (4, .ofNat 0))], [], [((74, 26), .inl (5, .ofNat 0)), ((71, 10), .inl (0, .ofNat 1)), ((71, 12), .inl (6, .ofNat 0)), ((71, 14), .inl (0, .ofNat 3))]), [.inl (6, 2, .ofNat 1)], [(false, .ofNat 5000, (0, .ofNat 0)), (false, .ofNat 7, (0, .ofNat 1)), (false, .ofNat 9, (5, .ofNat 0)), (false, .ofNat 9000, (0, .ofNat 0)), (false, .ofNat 0, (0, .ofNat 0)), (false, .ofNat 0, (0, .ofNat 0))]),
  ((0, [[(.ofNat 0, .ofNat 0)], [(.ofNat 0, .ofNat 0)], [(.ofNat 0, .ofNat 160)], [(.ofNat 2, .ofNat 2)], [(.ofNat 1, .ofNat 8)], [(.negSucc 2147483647, .ofNat 2147483647)], [(.ofNat 1, .ofNat 6)], [(.ofNat 0, .ofNat 160)]], [(0, .inr (.inr (.ref 71))), (1, .inl (0, .ofNat 0))], [], [((74, 26), .inl (4, .ofNat 0)), ((71, 14), .inl (5, .ofNat 0)), ((71, 10), .inl (6, .ofNat 0)), ((71, 12), .inl (7, .ofNat 0))]), [.inl (7, 2, .ofNat 0)], [(false, .ofNat 5000, (0, .ofNat 0)), (false, .ofNat 7, (6, .ofNat 0)), (false, .ofNat 9, (4, .ofNat 0)), (false, .ofNat 9000, (0, .ofNat 0)), (false, .ofNat 0, (0, .ofNat 0)), (false, .ofNat 0, (0, .ofNat 0))])]
def qc125 : List qCt := qc125_0
set_option maxRecDepth 100000 in
theorem qe125 : qck0 yT1 [qs124] qP 20000 [] qc125 qs125 = true := by decide +kernel
set_option maxRecDepth 100000 in
theorem qf125_0 : qc125_0.all (qck1 yT1 [qs124] qP 20000 [] qc125 qs125) = true := by decide +kernel
set_option maxRecDepth 100000 in
theorem qo125 : qOK yT1 86 1471 qs125 := qck_ok (m := 6) (qall_c qo124 qall_n) rfl qe125 qf125_0 (by decide +kernel) (by decide +kernel)
def qc126 : List qCt := []
set_option maxRecDepth 100000 in
theorem qe126 : qck0 yT1 [qs115, qs116, qs114, qs118, qs120, qs122, qs125] qP 20000 [] qc126 qs126 = true := by decide +kernel
set_option maxRecDepth 100000 in
theorem qo126 : qOK yT1 86 1471 qs126 := qck_ok (m := 0) (qall_c qo115 (qall_c qo116 (qall_c qo114 (qall_c qo118 (qall_c qo120 (qall_c qo122 (qall_c qo125 qall_n))))))) rfl qe126 rfl (by decide +kernel) (by decide +kernel)
def qc127_0 : List qCt := [((52, [[(.ofNat 0, .ofNat 0)], [(.negSucc 2147483647, .ofNat 2147483647)], [(.ofNat 0, .ofNat 3)], [(.ofNat 0, .ofNat 160)]], [(0, .inr (.inr (.ref 71))), (1, .inl (1, .ofNat 0)), (2, .inl (0, .ofNat 27))], [], [((71, 14), .inl (2, .ofNat 0)), ((71, 12), .inl (3, .ofNat 0)), ((71, 10), .inl (0, .ofNat 0)), ((74, 17), .inl (0, .ofNat 0))]), [], [(false, .ofNat 4948, (0, .ofNat 0)), (false, .ofNat 7, (0, .ofNat 0)), (false, .ofNat 161, (3, .ofNat 0)), (false, .ofNat 9000, (0, .ofNat 0)), (false, .ofNat 0, (0, .ofNat 0)), (false, .ofNat 0, (0, .ofNat 0))]),
  ((52, [[(.ofNat 0, .ofNat 0)], [(.negSucc 2147483647, .ofNat 2147483647)], [(.ofNat 1, .ofNat 6)], [(.negSucc 2147483647, .ofNat 2147483647)], [(.ofNat 0, .ofNat 160)]], [(0, .inr (.inr (.ref 71))), (1, .inl (1, .ofNat 0)), (2, .inl (0, .ofNat 27))], [], [((71, 10), .inl (2, .ofNat 0)), ((71, 14), .inl (3, .ofNat 0)), ((71, 12), .inl (4, .ofNat 0)), ((74, 17), .inl (0, .ofNat 0))]), [], [(false, .ofNat 4948, (0, .ofNat 0)), (false, .ofNat 7, (2, .ofNat 0)), (false, .ofNat 161, (4, .ofNat 0)), (false, .ofNat 9000, (0, .ofNat 0)), (false, .ofNat 0, (0, .ofNat 0)), (false, .ofNat 0, (0, .ofNat 0))])]
def qc127 : List qCt := qc127_0
set_option maxRecDepth 100000 in
theorem qe127 : qck0 yT1 [qs114, qs126] qP 20000 [] qc127 qs127 = true := by decide +kernel
set_option maxRecDepth 100000 in
theorem qf127_0 : qc127_0.all (qck1 yT1 [qs114, qs126] qP 20000 [] qc127 qs127) = true := by decide +kernel
set_option maxRecDepth 100000 in
theorem qo127 : qOK yT1 86 1471 qs127 := qck_ok (m := 6) (qall_c qo114 (qall_c qo126 qall_n)) rfl qe127 qf127_0 (by decide +kernel) (by decide +kernel)
def qc128 : List qCt := []
set_option maxRecDepth 100000 in
theorem qe128 : qck0 yT1 [] qP 20000 [] qc128 qs128 = true := by decide +kernel
set_option maxRecDepth 100000 in
theorem qo128 : qOK yT1 86 1471 qs128 := qck_ok (m := 0) qall_n rfl qe128 rfl (by decide +kernel) (by decide +kernel)
def qc129_0 : List qCt := [((5, [[(.ofNat 0, .ofNat 0)], [(.negSucc 3, .negSucc 3), (.ofNat 0, .ofNat 99)], [(.ofNat 0, .ofNat 5)]], [(0, .inr (.inr (.ref 71))), (1, .inl (0, .ofNat 0)), (2, .inl (1, .ofNat 0)), (3, .inl (2, .ofNat 0))], [], []), [], [(false, .ofNat 4995, (0, .ofNat 0)), (false, .ofNat 6, (2, .ofNat 0)), (false, .ofNat 9000, (0, .ofNat 0)), (false, .ofNat 0, (0, .ofNat 0))])]
def qc129 : List qCt := qc129_0
set_option maxRecDepth 100000 in
theorem qe129 : qck0 yT1 [] qP 20000 [] qc129 qs129 = true := by decide +kernel
set_option maxRecDepth 100000 in
theorem qf129_0 : qc129_0.all (qck1 yT1 [] qP 20000 [] qc129 qs129) = true := by decide +kernel
set_option maxRecDepth 100000 in
theorem qo129 : qOK yT1 86 1471 qs129 := qck_ok (m := 4) qall_n rfl qe129 qf129_0 (by decide +kernel) (by decide +kernel)
def qc130_0 : List qCt := [((4, [[(.ofNat 0, .ofNat 0)], [(.negSucc 2147483647, .ofNat 2147483647)], [(.ofNat 0, .ofNat 31)], [(.ofNat 0, .ofNat 5)]], [(0, .inr (.inr (.ref 71))), (1, .inl (1, .ofNat 0)), (2, .inl (2, .ofNat 0)), (3, .inl (3, .ofNat 0))], [], []), [], [(false, .ofNat 4996, (0, .ofNat 0)), (false, .ofNat 6, (3, .ofNat 0)), (false, .ofNat 9000, (0, .ofNat 0)), (false, .ofNat 0, (0, .ofNat 0))])]
def qc130 : List qCt := qc130_0
set_option maxRecDepth 100000 in
theorem qe130 : qck0 yT1 [qs129] qP 20000 [] qc130 qs130 = true := by decide +kernel
set_option maxRecDepth 100000 in
theorem qf130_0 : qc130_0.all (qck1 yT1 [qs129] qP 20000 [] qc130 qs130) = true := by decide +kernel
set_option maxRecDepth 100000 in
theorem qo130 : qOK yT1 86 1471 qs130 := qck_ok (m := 4) (qall_c qo129 qall_n) rfl qe130 qf130_0 (by decide +kernel) (by decide +kernel)
def qc131 : List qCt := []
set_option maxRecDepth 100000 in
theorem qe131 : qck0 yT1 [] qP 20000 [] qc131 qs131 = true := by decide +kernel
set_option maxRecDepth 100000 in
theorem qo131 : qOK yT1 86 1471 qs131 := qck_ok (m := 0) qall_n rfl qe131 rfl (by decide +kernel) (by decide +kernel)
def qc132 : List qCt := []
set_option maxRecDepth 100000 in
theorem qe132 : qck0 yT1 [] qP 20000 [] qc132 qs132 = true := by decide +kernel
set_option maxRecDepth 100000 in
theorem qo132 : qOK yT1 86 1471 qs132 := qck_ok (m := 0) qall_n rfl qe132 rfl (by decide +kernel) (by decide +kernel)
def qc133 : List qCt := []
set_option maxRecDepth 100000 in
theorem qe133 : qck0 yT1 [] qP 20000 [] qc133 qs133 = true := by decide +kernel
set_option maxRecDepth 100000 in
theorem qo133 : qOK yT1 86 1471 qs133 := qck_ok (m := 0) qall_n rfl qe133 rfl (by decide +kernel) (by decide +kernel)
def qc134 : List qCt := []
set_option maxRecDepth 100000 in
theorem qe134 : qck0 yT1 [] qP 20000 [] qc134 qs134 = true := by decide +kernel
set_option maxRecDepth 100000 in
theorem qo134 : qOK yT1 86 1471 qs134 := qck_ok (m := 0) qall_n rfl qe134 rfl (by decide +kernel) (by decide +kernel)
def qc135 : List qCt := []
set_option maxRecDepth 100000 in
theorem qe135 : qck0 yT1 [] qP 20000 [] qc135 qs135 = true := by decide +kernel
set_option maxRecDepth 100000 in
theorem qo135 : qOK yT1 86 1471 qs135 := qck_ok (m := 0) qall_n rfl qe135 rfl (by decide +kernel) (by decide +kernel)
def qc136 : List qCt := []
set_option maxRecDepth 100000 in
theorem qe136 : qck0 yT1 [] qP 20000 [] qc136 qs136 = true := by decide +kernel
set_option maxRecDepth 100000 in
theorem qo136 : qOK yT1 86 1471 qs136 := qck_ok (m := 0) qall_n rfl qe136 rfl (by decide +kernel) (by decide +kernel)
def qc137 : List qCt := []
set_option maxRecDepth 100000 in
theorem qe137 : qck0 yT1 [qs133, qs117, qs134, qs135, qs136] qP 20000 [] qc137 qs137 = true := by decide +kernel
set_option maxRecDepth 100000 in
theorem qo137 : qOK yT1 86 1471 qs137 := qck_ok (m := 0) (qall_c qo133 (qall_c qo117 (qall_c qo134 (qall_c qo135 (qall_c qo136 qall_n))))) rfl qe137 rfl (by decide +kernel) (by decide +kernel)
def qc138 : List qCt := []
set_option maxRecDepth 100000 in
theorem qe138 : qck0 yT1 [qs121] qP 20000 [] qc138 qs138 = true := by decide +kernel
set_option maxRecDepth 100000 in
theorem qo138 : qOK yT1 86 1471 qs138 := qck_ok (m := 0) (qall_c qo121 qall_n) rfl qe138 rfl (by decide +kernel) (by decide +kernel)
def qc139 : List qCt := []
set_option maxRecDepth 100000 in
theorem qe139 : qck0 yT1 [] qP 20000 [] qc139 qs139 = true := by decide +kernel
set_option maxRecDepth 100000 in
theorem qo139 : qOK yT1 86 1471 qs139 := qck_ok (m := 0) qall_n rfl qe139 rfl (by decide +kernel) (by decide +kernel)
def qc140 : List qCt := []
set_option maxRecDepth 100000 in
theorem qe140 : qck0 yT1 [] qP 20000 [] qc140 qs140 = true := by decide +kernel
set_option maxRecDepth 100000 in
theorem qo140 : qOK yT1 86 1471 qs140 := qck_ok (m := 0) qall_n rfl qe140 rfl (by decide +kernel) (by decide +kernel)
def qc141_0 : List qCt := [((11, [[(.ofNat 0, .ofNat 0)], [(.negSucc 2147483647, .ofNat 2147483647)], [(.negSucc 3, .negSucc 3), (.ofNat 0, .ofNat 4)], [(.negSucc 0, .ofNat 4)]], [(0, .inr (.inr (.ref 71))), (1, .inl (0, .ofNat 0)), (2, .inl (1, .ofNat 0)), (3, .inl (2, .ofNat 0)), (4, .inl (3, .ofNat 0))], [], []), [], [(false, .ofNat 4989, (0, .ofNat 0)), (true, .negSucc 1, (3, .ofNat 0)), (false, .ofNat 9000, (0, .ofNat 0)), (false, .ofNat 0, (0, .ofNat 0))])]
def qc141 : List qCt := qc141_0
set_option maxRecDepth 100000 in
theorem qe141 : qck0 yT1 [qs129] qP 20000 [] qc141 qs141 = true := by decide +kernel
set_option maxRecDepth 100000 in
theorem qf141_0 : qc141_0.all (qck1 yT1 [qs129] qP 20000 [] qc141 qs141) = true := by decide +kernel
set_option maxRecDepth 100000 in
theorem qo141 : qOK yT1 86 1471 qs141 := qck_ok (m := 4) (qall_c qo129 qall_n) rfl qe141 qf141_0 (by decide +kernel) (by decide +kernel)
def qc142 : List qCt := []
set_option maxRecDepth 100000 in
theorem qe142 : qck0 yT1 [qs141] qP 20000 [] qc142 qs142 = true := by decide +kernel
set_option maxRecDepth 100000 in
theorem qo142 : qOK yT1 86 1471 qs142 := qck_ok (m := 0) (qall_c qo141 qall_n) rfl qe142 rfl (by decide +kernel) (by decide +kernel)
def qc143 : List qCt := []
set_option maxRecDepth 100000 in
theorem qe143 : qck0 yT1 [qs142] qP 20000 [] qc143 qs143 = true := by decide +kernel
set_option maxRecDepth 100000 in
theorem qo143 : qOK yT1 86 1471 qs143 := qck_ok (m := 0) (qall_c qo142 qall_n) rfl qe143 rfl (by decide +kernel) (by decide +kernel)
def qc144_0 : List qCt := [((2, [[(.ofNat 0, .ofNat 0)], [(.ofNat 0, .ofNat 98)], [(.ofNat 0, .ofNat 98)], [(.ofNat 0, .ofNat 98)], [(.ofNat 0, .ofNat 98)], [(.ofNat 0, .ofNat 98)]], [(0, .inr (.inr (.ref 71))), (1, .inl (0, .ofNat 0)), (2, .inl (0, .ofNat 10))], [], [((72, 9), .inl (1, .ofNat 0)), ((72, 8), .inl (2, .ofNat 0)), ((72, 7), .inl (3, .ofNat 0)), ((72, 6), .inl (4, .ofNat 0)), ((72, 5), .inl (5, .ofNat 0))]), [], [(false, .ofNat 4998, (0, .ofNat 0)), (false, .ofNat 16, (0, .ofNat 10)), (false, .ofNat 9000, (0, .ofNat 0)), (false, .ofNat 0, (0, .ofNat 0))]),
  ((2, [[(.ofNat 0, .ofNat 0)], [(.ofNat 0, .ofNat 98)], [(.ofNat 0, .ofNat 98)], [(.ofNat 0, .ofNat 98)], [(.ofNat 0, .ofNat 98)], [(.ofNat 0, .ofNat 98)], [(.ofNat 0, .ofNat 98)]], [(0, .inr (.inr (.ref 71))), (1, .inl (0, .ofNat 0)), (2, .inl (0, .ofNat 11))], [], [((72, 10), .inl (1, .ofNat 0)), ((72, 9), .inl (2, .ofNat 0)), ((72, 8), .inl (3, .ofNat 0)), ((72, 7), .inl (4, .ofNat 0)), ((72, 6), .inl (5, .ofNat 0)), ((72, 5), .inl (6, .ofNat 0))]), [], [(false, .ofNat 4998, (0, .ofNat 0)), (false, .ofNat 16, (0, .ofNat 11)), (false, .ofNat 9000, (0, .ofNat 0)), (false, .ofNat 0, (0, .ofNat 0))]),
  ((2, [[(.ofNat 0, .ofNat 0)], [(.ofNat 0, .ofNat 98)], [(.ofNat 0, .ofNat 98)], [(.ofNat 0, .ofNat 98)], [(.ofNat 0, .ofNat 98)], [(.ofNat 0, .ofNat 98)], [(.ofNat 0, .ofNat 98)], [(.ofNat 0, .ofNat 98)]], [(0, .inr (.inr (.ref 71))), (1, .inl (0, .ofNat 0)), (2, .inl (0, .ofNat 12))], [], [((72, 11), .inl (1, .ofNat 0)), ((72, 10), .inl (2, .ofNat 0)), ((72, 9), .inl (3, .ofNat 0)), ((72, 8), .inl (4, .ofNat 0)), ((72, 7), .inl (5, .ofNat 0)), ((72, 6), .inl (6, .ofNat 0)), ((72, 5), .inl (7, .ofNat 0))]), [], [(false, .ofNat 4998, (0, .ofNat 0)), (false, .ofNat 16, (0, .ofNat 12)), (false, .ofNat 9000, (0, .ofNat 0)), (false, .ofNat 0, (0, .ofNat 0))]),
  ((2, [[(.ofNat 0, .ofNat 0)], [(.ofNat 0, .ofNat 98)], [(.ofNat 0, .ofNat 98)], [(.ofNat 0, .ofNat 98)], [(.ofNat 0, .ofNat 98)], [(.ofNat 0, .ofNat 98)], [(.ofNat 0, .ofNat 98)], [(.ofNat 0, .ofNat 98)], [(.ofNat 0, .ofNat 98)]], [(0, .inr (.inr (.ref 71))), (1, .inl (0, .ofNat 0)), (2, .inl (0, .ofNat 13))], [], [((72, 12), .inl (1, .ofNat 0)), ((72, 11), .inl (2, .ofNat 0)), ((72, 10), .inl (3, .ofNat 0)), ((72, 9), .inl (4, .ofNat 0)), ((72, 8), .inl (5, .ofNat 0)), ((72, 7), .inl (6, .ofNat 0)), ((72, 6), .inl (7, .ofNat 0)), ((72, 5), .inl (8, .ofNat 0))]), [], [(false, .ofNat 4998, (0, .ofNat 0)), (false, .ofNat 16, (0, .ofNat 13)), (false, .ofNat 9000, (0, .ofNat 0)), (false, .ofNat 0, (0, .ofNat 0))]),
  ((2, [[(.ofNat 0, .ofNat 0)], [(.ofNat 0, .ofNat 98)], [(.ofNat 0, .ofNat 98)], [(.ofNat 0, .ofNat 98)], [(.ofNat 0, .ofNat 98)], [(.ofNat 0, .ofNat 98)], [(.ofNat 0, .ofNat 98)], [(.ofNat 0, .ofNat 98)], [(.ofNat 0, .ofNat 98)], [(.ofNat 0, .ofNat 98)]], [(0, .inr (.inr (.ref 71))), (1, .inl (0, .ofNat 0)), (2, .inl (0, .ofNat 14))], [], [((72, 13), .inl (1, .ofNat 0)), ((72, 12), .inl (2, .ofNat 0)), ((72, 11), .inl (3, .ofNat 0)), ((72, 10), .inl (4, .ofNat 0)), ((72, 9), .inl (5, .ofNat 0)), ((72, 8), .inl (6, .ofNat 0)), ((72, 7), .inl (7, .ofNat 0)), ((72, 6), .inl (8, .ofNat 0)), ((72, 5), .inl (9, .ofNat 0))]), [], [(false, .ofNat 4998, (0, .ofNat 0)), (false, .ofNat 16, (0, .ofNat 14)), (false, .ofNat 9000, (0, .ofNat 0)), (false, .ofNat 0, (0, .ofNat 0))]),
  ((2, [[(.ofNat 0, .ofNat 0)], [(.ofNat 0, .ofNat 98)], [(.ofNat 0, .ofNat 98)], [(.ofNat 0, .ofNat 98)], [(.ofNat 0, .ofNat 98)], [(.ofNat 0, .ofNat 98)], [(.ofNat 0, .ofNat 98)], [(.ofNat 0, .ofNat 98)], [(.ofNat 0, .ofNat 98)], [(.ofNat 0, .ofNat 98)], [(.ofNat 0, .ofNat 98)]], [(0, .inr (.inr (.ref 71))), (1, .inl (0, .ofNat 0)), (2, .inl (0, .ofNat 15))], [], [((72, 14), .inl (1, .ofNat 0)), ((72, 13), .inl (2, .ofNat 0)), ((72, 12), .inl (3, .ofNat 0)), ((72, 11), .inl (4, .ofNat 0)), ((72, 10), .inl (5, .ofNat 0)), ((72, 9), .inl (6, .ofNat 0)), ((72, 8), .inl (7, .ofNat 0)), ((72, 7), .inl (8, .ofNat 0)), ((72, 6), .inl (9, .ofNat 0)), ((72, 5), .inl (10, .ofNat 0))]), [], [(false, .ofNat 4998, (0, .ofNat 0)), (false, .ofNat 16, (0, .ofNat 15)), (false, .ofNat 9000, (0, .ofNat 0)), (false, .ofNat 0, (0, .ofNat 0))]),
  ((2, [[(.ofNat 0, .ofNat 0)]], [(0, .inr (.inr (.ref 71))), (1, .inl (0, .ofNat 0)), (2, .inl (0, .ofNat 5))], [], []), [], [(false, .ofNat 4998, (0, .ofNat 0)), (false, .ofNat 16, (0, .ofNat 5)), (false, .ofNat 9000, (0, .ofNat 0)), (false, .ofNat 0, (0, .ofNat 0))]),
  ((2, [[(.ofNat 0, .ofNat 0)], [(.ofNat 0, .ofNat 98)]], [(0, .inr (.inr (.ref 71))), (1, .inl (0, .ofNat 0)), (2, .inl (0, .ofNat 6))], [], [((72, 5), .inl (1, .ofNat 0))]), [], [(false, .ofNat 4998, (0, .ofNat 0)), (false, .ofNat 16, (0, .ofNat 6)), (false, .ofNat 9000, (0, .ofNat 0)), (false, .ofNat 0, (0, .ofNat 0))]),
  ((2, [[(.ofNat 0, .ofNat 0)], [(.ofNat 0, .ofNat 98)], [(.ofNat 0, .ofNat 98)]], [(0, .inr (.inr (.ref 71))), (1, .inl (0, .ofNat 0)), (2, .inl (0, .ofNat 7))], [], [((72, 6), .inl (1, .ofNat 0)), ((72, 5), .inl (2, .ofNat 0))]), [], [(false, .ofNat 4998, (0, .ofNat 0)), (false, .ofNat 16, (0, .ofNat 7)), (false, .ofNat 9000, (0, .ofNat 0)), (false, .ofNat 0, (0, .ofNat 0))]),
  ((2, [[(.ofNat 0, .ofNat 0)], [(.ofNat 0, .ofNat 98)], [(.ofNat 0, .ofNat 98)], [(.ofNat 0, .ofNat 98)]], [(0, .inr (.inr (.ref 71))), (1, .inl (0, .ofNat 0)), (2, .inl (0, .ofNat 8))], [], [((72, 7), .inl (1, .ofNat 0)), ((72, 6), .inl (2, .ofNat 0)), ((72, 5), .inl (3, .ofNat 0))]), [], [(false, .ofNat 4998, (0, .ofNat 0)), (false, .ofNat 16, (0, .ofNat 8)), (false, .ofNat 9000, (0, .ofNat 0)), (false, .ofNat 0, (0, .ofNat 0))]),
  ((2, [[(.ofNat 0, .ofNat 0)], [(.ofNat 0, .ofNat 98)], [(.ofNat 0, .ofNat 98)], [(.ofNat 0, .ofNat 98)], [(.ofNat 0, .ofNat 98)]], [(0, .inr (.inr (.ref 71))), (1, .inl (0, .ofNat 0)), (2, .inl (0, .ofNat 9))], [], [((72, 8), .inl (1, .ofNat 0)), ((72, 7), .inl (2, .ofNat 0)), ((72, 6), .inl (3, .ofNat 0)), ((72, 5), .inl (4, .ofNat 0))]), [], [(false, .ofNat 4998, (0, .ofNat 0)), (false, .ofNat 16, (0, .ofNat 9)), (false, .ofNat 9000, (0, .ofNat 0)), (false, .ofNat 0, (0, .ofNat 0))])]
def qc144 : List qCt := qc144_0
set_option maxRecDepth 100000 in
theorem qe144 : qck0 yT1 [] qP 20000 [] qc144 qs144 = true := by decide +kernel
set_option maxRecDepth 100000 in
theorem qf144_0 : qc144_0.all (qck1 yT1 [] qP 20000 [] qc144 qs144) = true := by decide +kernel
set_option maxRecDepth 100000 in
theorem qo144 : qOK yT1 86 1471 qs144 := qck_ok (m := 4) qall_n rfl qe144 qf144_0 (by decide +kernel) (by decide +kernel)
def qc145_0 : List qCt := [((16, [[(.ofNat 0, .ofNat 0)], [(.ofNat 0, .ofNat 99)], [(.ofNat 0, .ofNat 99)]], [(0, .inr (.inr (.ref 71))), (1, .inl (1, .ofNat 0)), (2, .inl (2, .ofNat 0))], [], []), [], [(false, .ofNat 4984, (0, .ofNat 0)), (false, .ofNat 100, (2, .ofNat 0)), (false, .ofNat 9000, (0, .ofNat 0)), (false, .ofNat 0, (0, .ofNat 0))])]
def qc145 : List qCt := qc145_0
set_option maxRecDepth 100000 in
theorem qe145 : qck0 yT1 [qs117, qs129, qs144] qP 20000 [] qc145 qs145 = true := by decide +kernel
set_option maxRecDepth 100000 in
theorem qf145_0 : qc145_0.all (qck1 yT1 [qs117, qs129, qs144] qP 20000 [] qc145 qs145) = true := by decide +kernel
set_option maxRecDepth 100000 in
theorem qo145 : qOK yT1 86 1471 qs145 := qck_ok (m := 4) (qall_c qo117 (qall_c qo129 (qall_c qo144 qall_n))) rfl qe145 qf145_0 (by decide +kernel) (by decide +kernel)
def qc146 : List qCt := []
set_option maxRecDepth 100000 in
theorem qe146 : qck0 yT1 [] qP 20000 [] qc146 qs146 = true := by decide +kernel
set_option maxRecDepth 100000 in
theorem qo146 : qOK yT1 86 1471 qs146 := qck_ok (m := 0) qall_n rfl qe146 rfl (by decide +kernel) (by decide +kernel)
def qc147_0 : List qCt := [((5, [[(.ofNat 0, .ofNat 0)], [(.negSucc 3, .negSucc 3), (.ofNat 0, .ofNat 99)], [(.ofNat 0, .ofNat 5)]], [(0, .inr (.inr (.ref 71))), (1, .inl (0, .ofNat 108)), (2, .inl (1, .ofNat 0)), (3, .inl (2, .ofNat 0))], [], []), [], [(false, .ofNat 4995, (0, .ofNat 0)), (false, .ofNat 6, (2, .ofNat 0)), (false, .ofNat 9000, (0, .ofNat 0)), (false, .ofNat 0, (0, .ofNat 0))])]
def qc147 : List qCt := qc147_0
set_option maxRecDepth 100000 in
theorem qe147 : qck0 yT1 [] qP 20000 [] qc147 qs147 = true := by decide +kernel
set_option maxRecDepth 100000 in
theorem qf147_0 : qc147_0.all (qck1 yT1 [] qP 20000 [] qc147 qs147) = true := by decide +kernel
set_option maxRecDepth 100000 in
theorem qo147 : qOK yT1 86 1471 qs147 := qck_ok (m := 4) qall_n rfl qe147 qf147_0 (by decide +kernel) (by decide +kernel)
