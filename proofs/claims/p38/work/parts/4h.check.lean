/-! the methods are as their summaries say, 7 -/
def qc124 : List qCt := []
set_option maxRecDepth 100000 in
theorem qe124 : qck0 yT1 [qs114, qs123] qP 20000 [] qc124 qs124 = true := by decide +kernel
set_option maxRecDepth 100000 in
theorem qf124 : qc124.all (qck1 yT1 [qs114, qs123] qP 20000 [] qc124 qs124) = true := by decide +kernel
set_option maxRecDepth 100000 in
theorem qo124 : qOK yT1 86 1471 qs124 := qck_ok (m := 0) (qall_c qo114 (qall_c qo123 qall_n)) rfl qe124 qf124 (by decide +kernel) (by decide +kernel)
def qk125_0 : qCt := ((0, [[(.ofNat 0, .ofNat 0)], [(.ofNat 0, .ofNat 0)], [(.ofNat 0, .ofNat 160)], [(.ofNat 2, .ofNat 2)], [(.ofNat 0, .ofNat 31)], [(.ofNat 1, .ofNat 8)], [(.ofNat 0, .ofNat 160)]], [(0, .inr (.inr (.ref 71))), (1, .inl (4, .ofNat 0))], [], [((74, 26), .inl (5, .ofNat 0)), ((71, 14), .inl (0, .ofNat 0)), ((71, 12), .inl (6, .ofNat 0)), ((71, 10), .inl (0, .ofNat 0))]), [.inl (6, 2, .ofNat 0)], [(false, .ofNat 5000, (0, .ofNat 0)), (false, .ofNat 7, (0, .ofNat 0)), (false, .ofNat 9, (5, .ofNat 0)), (false, .ofNat 9000, (0, .ofNat 0)), (false, .ofNat 0, (0, .ofNat 0)), (false, .ofNat 0, (0, .ofNat 0))])
def qk125_1 : qCt := ((0, [[(.ofNat 0, .ofNat 0)], [(.ofNat 0, .ofNat 0)], [(.ofNat 0, .ofNat 160)], [(.ofNat 2, .ofNat 2)], [(.ofNat 0, .ofNat 31)], [(.ofNat 1, .ofNat 8)], [(.ofNat 1, .ofNat 160)]], [(0, .inr (.inr (.ref 71))), (1, .inl (4, .ofNat 0))], [], [((74, 26), .inl (5, .ofNat 0)), ((71, 14), .inl (0, .ofNat 1)), ((71, 12), .inl (6, .ofNat 0)), ((71, 10), .inl (0, .ofNat 0))]), [.inl (6, 2, .ofNat 1)], [(false, .ofNat 5000, (0, .ofNat 0)), (false, .ofNat 7, (0, .ofNat 0)), (false, .ofNat 9, (5, .ofNat 0)), (false, .ofNat 9000, (0, .ofNat 0)), (false, .ofNat 0, (0, .ofNat 0)), (false, .ofNat 0, (0, .ofNat 0))])
def qk125_2 : qCt := ((0, [[(.ofNat 0, .ofNat 0)], [(.ofNat 0, .ofNat 0)], [(.ofNat 0, .ofNat 160)], [(.ofNat 2, .ofNat 2)], [(.ofNat 0, .ofNat 31)], [(.ofNat 1, .ofNat 8)], [(.ofNat 1, .ofNat 160)]], [(0, .inr (.inr (.ref 71))), (1, .inl (4, .ofNat 0))], [], [((74, 26), .inl (5, .ofNat 0)), ((71, 14), .inl (0, .ofNat 2)), ((71, 12), .inl (6, .ofNat 0)), ((71, 10), .inl (0, .ofNat 0))]), [.inl (6, 2, .ofNat 1)], [(false, .ofNat 5000, (0, .ofNat 0)), (false, .ofNat 7, (0, .ofNat 0)), (false, .ofNat 9, (5, .ofNat 0)), (false, .ofNat 9000, (0, .ofNat 0)), (false, .ofNat 0, (0, .ofNat 0)), (false, .ofNat 0, (0, .ofNat 0))])
def qk125_3 : qCt := ((0, [[(.ofNat 0, .ofNat 0)], [(.ofNat 0, .ofNat 0)], [(.ofNat 0, .ofNat 160)], [(.ofNat 2, .ofNat 2)], [(.ofNat 0, .ofNat 31)], [(.ofNat 1, .ofNat 8)], [(.ofNat 1, .ofNat 160)]], [(0, .inr (.inr (.ref 71))), (1, .inl (4, .ofNat 0))], [], [((74, 26), .inl (5, .ofNat 0)), ((71, 12), .inl (6, .ofNat 0)), ((71, 14), .inl (0, .ofNat 3)), ((71, 10), .inl (0, .ofNat 0))]), [.inl (6, 2, .ofNat 1)], [(false, .ofNat 5000, (0, .ofNat 0)), (false, .ofNat 7, (0, .ofNat 0)), (false, .ofNat 9, (5, .ofNat 0)), (false, .ofNat 9000, (0, .ofNat 0)), (false, .ofNat 0, (0, .ofNat 0)), (false, .ofNat 0, (0, .ofNat 0))])
def qk125_4 : qCt := ((0, [[(.ofNat 0, .ofNat 0)], [(.ofNat 0, .ofNat 0)], [(.ofNat 0, .ofNat 160)], [(.ofNat 2, .ofNat 2)], [(.ofNat 1, .ofNat 8)], [(.ofNat 1, .ofNat 1), (.ofNat 5, .ofNat 5)], [(.ofNat 0, .ofNat 160)]], [(0, .inr (.inr (.ref 71)))], [], [((74, 26), .inl (4, .ofNat 0)), ((71, 10), .inl (5, .ofNat 0)), ((71, 14), .inl (0, .ofNat 2)), ((71, 12), .inl (6, .ofNat 0))]), [.inl (6, 2, .ofNat 0)], [(false, .ofNat 5000, (0, .ofNat 0)), (false, .ofNat 7, (5, .ofNat 0)), (false, .ofNat 9, (4, .ofNat 0)), (false, .ofNat 9000, (0, .ofNat 0)), (false, .ofNat 0, (0, .ofNat 0)), (false, .ofNat 0, (0, .ofNat 0))])
def qk125_5 : qCt := ((0, [[(.ofNat 0, .ofNat 0)], [(.ofNat 0, .ofNat 0)], [(.ofNat 0, .ofNat 160)], [(.ofNat 2, .ofNat 2)], [(.ofNat 0, .ofNat 31)], [(.ofNat 1, .ofNat 8)], [(.ofNat 1, .ofNat 160)]], [(0, .inr (.inr (.ref 71))), (1, .inl (4, .ofNat 0))], [], [((74, 26), .inl (5, .ofNat 0)), ((71, 10), .inl (0, .ofNat 1)), ((71, 12), .inl (6, .ofNat 0)), ((71, 14), .inl (0, .ofNat 3))]), [.inl (6, 2, .ofNat 1)], [(false, .ofNat 5000, (0, .ofNat 0)), (false, .ofNat 7, (0, .ofNat 1)), (false, .ofNat 9, (5, .ofNat 0)), (false, .ofNat 9000, (0, .ofNat 0)), (false, .ofNat 0, (0, .ofNat 0)), (false, .ofNat 0, (0, .ofNat 0))])
def qk125_6 : qCt := ((0, [[(.ofNat 0, .ofNat 0)], [(.ofNat 0, .ofNat 0)], [(.ofNat 0, .ofNat 160)], [(.ofNat 2, .ofNat 2)], [(.ofNat 1, .ofNat 8)], [(.negSucc 2147483647, .ofNat 2147483647)], [(.ofNat 1, .ofNat 6)], [(.ofNat 0, .ofNat 160)]], [(0, .inr (.inr (.ref 71))), (1, .inl (0, .ofNat 0))], [], [((74, 26), .inl (4, .ofNat 0)), ((71, 14), .inl (5, .ofNat 0)), ((71, 10), .inl (6, .ofNat 0)), ((71, 12), .inl (7, .ofNat 0))]), [.inl (7, 2, .ofNat 0)], [(false, .ofNat 5000, (0, .ofNat 0)), (false, .ofNat 7, (6, .ofNat 0)), (false, .ofNat 9, (4, .ofNat 0)), (false, .ofNat 9000, (0, .ofNat 0)), (false, .ofNat 0, (0, .ofNat 0)), (false, .ofNat 0, (0, .ofNat 0))])
def qc125 : List qCt := [qk125_0, qk125_1, qk125_2, qk125_3, qk125_4, qk125_5, qk125_6]
set_option maxRecDepth 100000 in
theorem qe125 : qck0 yT1 [qs124] qP 20000 [] [qk125_0, qk125_1, qk125_2, qk125_3, qk125_4, qk125_5, qk125_6] qs125 = true := by decide +kernel
set_option maxRecDepth 100000 in
theorem qf125_0 : qck1 yT1 [qs124] qP 20000 [] [] qs125 qk125_0 = true := by decide +kernel
set_option maxRecDepth 100000 in
theorem qf125_1 : qck1 yT1 [qs124] qP 20000 [] [] qs125 qk125_1 = true := by decide +kernel
set_option maxRecDepth 100000 in
theorem qf125_2 : qck1 yT1 [qs124] qP 20000 [] [qk125_0, qk125_1, qk125_2, qk125_3, qk125_4, qk125_5, qk125_6] qs125 qk125_2 = true := by decide +kernel
set_option maxRecDepth 100000 in
theorem qf125_3 : qck1 yT1 [qs124] qP 20000 [] [] qs125 qk125_3 = true := by decide +kernel
set_option maxRecDepth 100000 in
theorem qf125_4 : qck1 yT1 [qs124] qP 20000 [] [] qs125 qk125_4 = true := by decide +kernel
set_option maxRecDepth 100000 in
theorem qf125_5 : qck1 yT1 [qs124] qP 20000 [] [] qs125 qk125_5 = true := by decide +kernel
set_option maxRecDepth 100000 in
theorem qf125_6 : qck1 yT1 [qs124] qP 20000 [] [] qs125 qk125_6 = true := by decide +kernel
set_option maxRecDepth 100000 in
theorem qg125_7 : qHs yT1 [qs124] qP 20000 [] qs125 qc125 [] := qHs_n
set_option maxRecDepth 100000 in
theorem qg125_6 : qHs yT1 [qs124] qP 20000 [] qs125 qc125 [qk125_6] := qHs_c qsb_n qf125_6 qg125_7
set_option maxRecDepth 100000 in
theorem qg125_5 : qHs yT1 [qs124] qP 20000 [] qs125 qc125 [qk125_5, qk125_6] := qHs_c qsb_n qf125_5 qg125_6
set_option maxRecDepth 100000 in
theorem qg125_4 : qHs yT1 [qs124] qP 20000 [] qs125 qc125 [qk125_4, qk125_5, qk125_6] := qHs_c qsb_n qf125_4 qg125_5
set_option maxRecDepth 100000 in
theorem qg125_3 : qHs yT1 [qs124] qP 20000 [] qs125 qc125 [qk125_3, qk125_4, qk125_5, qk125_6] := qHs_c qsb_n qf125_3 qg125_4
set_option maxRecDepth 100000 in
theorem qg125_2 : qHs yT1 [qs124] qP 20000 [] qs125 qc125 [qk125_2, qk125_3, qk125_4, qk125_5, qk125_6] := qHs_c (qsb_c (i := 0) rfl (qsb_c (i := 1) rfl (qsb_c (i := 2) rfl (qsb_c (i := 3) rfl (qsb_c (i := 4) rfl (qsb_c (i := 5) rfl (qsb_c (i := 6) rfl qsb_n))))))) qf125_2 qg125_3
set_option maxRecDepth 100000 in
theorem qg125_1 : qHs yT1 [qs124] qP 20000 [] qs125 qc125 [qk125_1, qk125_2, qk125_3, qk125_4, qk125_5, qk125_6] := qHs_c qsb_n qf125_1 qg125_2
set_option maxRecDepth 100000 in
theorem qg125_0 : qHs yT1 [qs124] qP 20000 [] qs125 qc125 [qk125_0, qk125_1, qk125_2, qk125_3, qk125_4, qk125_5, qk125_6] := qHs_c qsb_n qf125_0 qg125_1
set_option maxRecDepth 100000 in
theorem qo125 : qOK yT1 86 1471 qs125 := qck_ok2 (m := 6) (cuts := qc125) (qall_c qo124 qall_n) rfl (qsb_c (i := 0) rfl (qsb_c (i := 1) rfl (qsb_c (i := 2) rfl (qsb_c (i := 3) rfl (qsb_c (i := 4) rfl (qsb_c (i := 5) rfl (qsb_c (i := 6) rfl qsb_n))))))) qe125 qg125_0 (by decide +kernel) (by decide +kernel)
def qc126 : List qCt := []
set_option maxRecDepth 100000 in
theorem qe126 : qck0 yT1 [qs115, qs116, qs114, qs118, qs120, qs122, qs125] qP 20000 [] qc126 qs126 = true := by decide +kernel
set_option maxRecDepth 100000 in
theorem qf126 : qc126.all (qck1 yT1 [qs115, qs116, qs114, qs118, qs120, qs122, qs125] qP 20000 [] qc126 qs126) = true := by decide +kernel
set_option maxRecDepth 100000 in
theorem qo126 : qOK yT1 86 1471 qs126 := qck_ok (m := 0) (qall_c qo115 (qall_c qo116 (qall_c qo114 (qall_c qo118 (qall_c qo120 (qall_c qo122 (qall_c qo125 qall_n))))))) rfl qe126 qf126 (by decide +kernel) (by decide +kernel)
def qc127 : List qCt := [((52, [[(.ofNat 0, .ofNat 0)], [(.negSucc 2147483647, .ofNat 2147483647)], [(.ofNat 0, .ofNat 3)], [(.ofNat 0, .ofNat 160)]], [(0, .inr (.inr (.ref 71))), (1, .inl (1, .ofNat 0)), (2, .inl (0, .ofNat 27))], [], [((71, 14), .inl (2, .ofNat 0)), ((71, 12), .inl (3, .ofNat 0)), ((71, 10), .inl (0, .ofNat 0)), ((74, 17), .inl (0, .ofNat 0))]), [], [(false, .ofNat 4948, (0, .ofNat 0)), (false, .ofNat 7, (0, .ofNat 0)), (false, .ofNat 161, (3, .ofNat 0)), (false, .ofNat 9000, (0, .ofNat 0)), (false, .ofNat 0, (0, .ofNat 0)), (false, .ofNat 0, (0, .ofNat 0))]),
  ((52, [[(.ofNat 0, .ofNat 0)], [(.negSucc 2147483647, .ofNat 2147483647)], [(.ofNat 1, .ofNat 6)], [(.negSucc 2147483647, .ofNat 2147483647)], [(.ofNat 0, .ofNat 160)]], [(0, .inr (.inr (.ref 71))), (1, .inl (1, .ofNat 0)), (2, .inl (0, .ofNat 27))], [], [((71, 10), .inl (2, .ofNat 0)), ((71, 14), .inl (3, .ofNat 0)), ((71, 12), .inl (4, .ofNat 0)), ((74, 17), .inl (0, .ofNat 0))]), [], [(false, .ofNat 4948, (0, .ofNat 0)), (false, .ofNat 7, (2, .ofNat 0)), (false, .ofNat 161, (4, .ofNat 0)), (false, .ofNat 9000, (0, .ofNat 0)), (false, .ofNat 0, (0, .ofNat 0)), (false, .ofNat 0, (0, .ofNat 0))])]
set_option maxRecDepth 100000 in
theorem qe127 : qck0 yT1 [qs114, qs126] qP 20000 [] qc127 qs127 = true := by decide +kernel
set_option maxRecDepth 100000 in
theorem qf127 : qc127.all (qck1 yT1 [qs114, qs126] qP 20000 [] qc127 qs127) = true := by decide +kernel
set_option maxRecDepth 100000 in
theorem qo127 : qOK yT1 86 1471 qs127 := qck_ok (m := 6) (qall_c qo114 (qall_c qo126 qall_n)) rfl qe127 qf127 (by decide +kernel) (by decide +kernel)
def qc128 : List qCt := []
set_option maxRecDepth 100000 in
theorem qe128 : qck0 yT1 [] qP 20000 [] qc128 qs128 = true := by decide +kernel
set_option maxRecDepth 100000 in
theorem qf128 : qc128.all (qck1 yT1 [] qP 20000 [] qc128 qs128) = true := by decide +kernel
set_option maxRecDepth 100000 in
theorem qo128 : qOK yT1 86 1471 qs128 := qck_ok (m := 0) qall_n rfl qe128 qf128 (by decide +kernel) (by decide +kernel)
def qc129 : List qCt := [((5, [[(.ofNat 0, .ofNat 0)], [(.negSucc 3, .negSucc 3), (.ofNat 0, .ofNat 99)], [(.ofNat 0, .ofNat 5)]], [(0, .inr (.inr (.ref 71))), (1, .inl (0, .ofNat 0)), (2, .inl (1, .ofNat 0)), (3, .inl (2, .ofNat 0))], [], []), [], [(false, .ofNat 4995, (0, .ofNat 0)), (false, .ofNat 6, (2, .ofNat 0)), (false, .ofNat 9000, (0, .ofNat 0)), (false, .ofNat 0, (0, .ofNat 0))])]
set_option maxRecDepth 100000 in
theorem qe129 : qck0 yT1 [] qP 20000 [] qc129 qs129 = true := by decide +kernel
set_option maxRecDepth 100000 in
theorem qf129 : qc129.all (qck1 yT1 [] qP 20000 [] qc129 qs129) = true := by decide +kernel
set_option maxRecDepth 100000 in
theorem qo129 : qOK yT1 86 1471 qs129 := qck_ok (m := 4) qall_n rfl qe129 qf129 (by decide +kernel) (by decide +kernel)
def qc130 : List qCt := [((4, [[(.ofNat 0, .ofNat 0)], [(.negSucc 2147483647, .ofNat 2147483647)], [(.ofNat 0, .ofNat 31)], [(.ofNat 0, .ofNat 5)]], [(0, .inr (.inr (.ref 71))), (1, .inl (1, .ofNat 0)), (2, .inl (2, .ofNat 0)), (3, .inl (3, .ofNat 0))], [], []), [], [(false, .ofNat 4996, (0, .ofNat 0)), (false, .ofNat 6, (3, .ofNat 0)), (false, .ofNat 9000, (0, .ofNat 0)), (false, .ofNat 0, (0, .ofNat 0))])]
set_option maxRecDepth 100000 in
theorem qe130 : qck0 yT1 [qs129] qP 20000 [] qc130 qs130 = true := by decide +kernel
set_option maxRecDepth 100000 in
theorem qf130 : qc130.all (qck1 yT1 [qs129] qP 20000 [] qc130 qs130) = true := by decide +kernel
set_option maxRecDepth 100000 in
theorem qo130 : qOK yT1 86 1471 qs130 := qck_ok (m := 4) (qall_c qo129 qall_n) rfl qe130 qf130 (by decide +kernel) (by decide +kernel)
def qc131 : List qCt := []
set_option maxRecDepth 100000 in
theorem qe131 : qck0 yT1 [] qP 20000 [] qc131 qs131 = true := by decide +kernel
set_option maxRecDepth 100000 in
theorem qf131 : qc131.all (qck1 yT1 [] qP 20000 [] qc131 qs131) = true := by decide +kernel
set_option maxRecDepth 100000 in
theorem qo131 : qOK yT1 86 1471 qs131 := qck_ok (m := 0) qall_n rfl qe131 qf131 (by decide +kernel) (by decide +kernel)
def qc132 : List qCt := []
set_option maxRecDepth 100000 in
theorem qe132 : qck0 yT1 [] qP 20000 [] qc132 qs132 = true := by decide +kernel
set_option maxRecDepth 100000 in
theorem qf132 : qc132.all (qck1 yT1 [] qP 20000 [] qc132 qs132) = true := by decide +kernel
set_option maxRecDepth 100000 in
theorem qo132 : qOK yT1 86 1471 qs132 := qck_ok (m := 0) qall_n rfl qe132 qf132 (by decide +kernel) (by decide +kernel)
def qc133 : List qCt := []
set_option maxRecDepth 100000 in
theorem qe133 : qck0 yT1 [] qP 20000 [] qc133 qs133 = true := by decide +kernel
set_option maxRecDepth 100000 in
theorem qf133 : qc133.all (qck1 yT1 [] qP 20000 [] qc133 qs133) = true := by decide +kernel
set_option maxRecDepth 100000 in
theorem qo133 : qOK yT1 86 1471 qs133 := qck_ok (m := 0) qall_n rfl qe133 qf133 (by decide +kernel) (by decide +kernel)
def qc134 : List qCt := []
set_option maxRecDepth 100000 in
theorem qe134 : qck0 yT1 [] qP 20000 [] qc134 qs134 = true := by decide +kernel
set_option maxRecDepth 100000 in
theorem qf134 : qc134.all (qck1 yT1 [] qP 20000 [] qc134 qs134) = true := by decide +kernel
set_option maxRecDepth 100000 in
theorem qo134 : qOK yT1 86 1471 qs134 := qck_ok (m := 0) qall_n rfl qe134 qf134 (by decide +kernel) (by decide +kernel)
def qc135 : List qCt := []
set_option maxRecDepth 100000 in
theorem qe135 : qck0 yT1 [] qP 20000 [] qc135 qs135 = true := by decide +kernel
set_option maxRecDepth 100000 in
theorem qf135 : qc135.all (qck1 yT1 [] qP 20000 [] qc135 qs135) = true := by decide +kernel
set_option maxRecDepth 100000 in
theorem qo135 : qOK yT1 86 1471 qs135 := qck_ok (m := 0) qall_n rfl qe135 qf135 (by decide +kernel) (by decide +kernel)
def qc136 : List qCt := []
set_option maxRecDepth 100000 in
theorem qe136 : qck0 yT1 [] qP 20000 [] qc136 qs136 = true := by decide +kernel
set_option maxRecDepth 100000 in
theorem qf136 : qc136.all (qck1 yT1 [] qP 20000 [] qc136 qs136) = true := by decide +kernel
set_option maxRecDepth 100000 in
theorem qo136 : qOK yT1 86 1471 qs136 := qck_ok (m := 0) qall_n rfl qe136 qf136 (by decide +kernel) (by decide +kernel)
def qc137 : List qCt := []
set_option maxRecDepth 100000 in
theorem qe137 : qck0 yT1 [] qP 20000 [] qc137 qs137 = true := by decide +kernel
set_option maxRecDepth 100000 in
theorem qf137 : qc137.all (qck1 yT1 [] qP 20000 [] qc137 qs137) = true := by decide +kernel
set_option maxRecDepth 100000 in
theorem qo137 : qOK yT1 86 1471 qs137 := qck_ok (m := 0) qall_n rfl qe137 qf137 (by decide +kernel) (by decide +kernel)
