/-! the methods are as their summaries say, 1 -/
def qc28 : List qCt := []
set_option maxRecDepth 100000 in
theorem qe28 : qck0 yT1 [] qP 20000 [] qc28 qs28 = true := by decide +kernel
set_option maxRecDepth 100000 in
theorem qf28 : qc28.all (qck1 yT1 [] qP 20000 [] qc28 qs28) = true := by decide +kernel
set_option maxRecDepth 100000 in
theorem qo28 : qOK yT1 86 1471 qs28 := qck_ok (m := 0) qall_n rfl qe28 qf28 (by decide +kernel) (by decide +kernel)
def qc29 : List qCt := []
set_option maxRecDepth 100000 in
theorem qe29 : qck0 yT1 [] qP 20000 [] qc29 qs29 = true := by decide +kernel
set_option maxRecDepth 100000 in
theorem qf29 : qc29.all (qck1 yT1 [] qP 20000 [] qc29 qs29) = true := by decide +kernel
set_option maxRecDepth 100000 in
theorem qo29 : qOK yT1 86 1471 qs29 := qck_ok (m := 0) qall_n rfl qe29 qf29 (by decide +kernel) (by decide +kernel)
def qc30 : List qCt := []
set_option maxRecDepth 100000 in
theorem qe30 : qck0 yT1 [qs28] qP 20000 [] qc30 qs30 = true := by decide +kernel
set_option maxRecDepth 100000 in
theorem qf30 : qc30.all (qck1 yT1 [qs28] qP 20000 [] qc30 qs30) = true := by decide +kernel
set_option maxRecDepth 100000 in
theorem qo30 : qOK yT1 86 1471 qs30 := qck_ok (m := 0) (qall_c qo28 qall_n) rfl qe30 qf30 (by decide +kernel) (by decide +kernel)
def qc31 : List qCt := []
set_option maxRecDepth 100000 in
theorem qe31 : qck0 yT1 [] qP 20000 [] qc31 qs31 = true := by decide +kernel
set_option maxRecDepth 100000 in
theorem qf31 : qc31.all (qck1 yT1 [] qP 20000 [] qc31 qs31) = true := by decide +kernel
set_option maxRecDepth 100000 in
theorem qo31 : qOK yT1 86 1471 qs31 := qck_ok (m := 0) qall_n rfl qe31 qf31 (by decide +kernel) (by decide +kernel)
def qc32 : List qCt := []
set_option maxRecDepth 100000 in
theorem qe32 : qck0 yT1 [] qP 20000 [] qc32 qs32 = true := by decide +kernel
set_option maxRecDepth 100000 in
theorem qf32 : qc32.all (qck1 yT1 [] qP 20000 [] qc32 qs32) = true := by decide +kernel
set_option maxRecDepth 100000 in
theorem qo32 : qOK yT1 86 1471 qs32 := qck_ok (m := 0) qall_n rfl qe32 qf32 (by decide +kernel) (by decide +kernel)
def qc33 : List qCt := []
set_option maxRecDepth 100000 in
theorem qe33 : qck0 yT1 [] qP 20000 [] qc33 qs33 = true := by decide +kernel
set_option maxRecDepth 100000 in
theorem qf33 : qc33.all (qck1 yT1 [] qP 20000 [] qc33 qs33) = true := by decide +kernel
set_option maxRecDepth 100000 in
theorem qo33 : qOK yT1 86 1471 qs33 := qck_ok (m := 0) qall_n rfl qe33 qf33 (by decide +kernel) (by decide +kernel)
def qc34 : List qCt := [((5, [[(.ofNat 0, .ofNat 0)], [(.negSucc 2147483647, .ofNat 2147483647)], [(.negSucc 3, .negSucc 3), (.ofNat 0, .ofNat 4)], [(.ofNat 0, .ofNat 5)]], [(0, .inr (.inr (.ref 11))), (1, .inl (1, .ofNat 0)), (2, .inl (2, .ofNat 0)), (3, .inl (3, .ofNat 0))], [], []), [], [(false, .ofNat 4995, (0, .ofNat 0)), (false, .ofNat 6, (3, .ofNat 0)), (false, .ofNat 9000, (0, .ofNat 0)), (false, .ofNat 0, (0, .ofNat 0))])]
set_option maxRecDepth 100000 in
theorem qe34 : qck0 yT1 [] qP 20000 [] qc34 qs34 = true := by decide +kernel
set_option maxRecDepth 100000 in
theorem qf34 : qc34.all (qck1 yT1 [] qP 20000 [] qc34 qs34) = true := by decide +kernel
set_option maxRecDepth 100000 in
theorem qo34 : qOK yT1 86 1471 qs34 := qck_ok (m := 4) qall_n rfl qe34 qf34 (by decide +kernel) (by decide +kernel)
def qc35 : List qCt := []
set_option maxRecDepth 100000 in
theorem qe35 : qck0 yT1 [qs34, qs24] qP 20000 [] qc35 qs35 = true := by decide +kernel
set_option maxRecDepth 100000 in
theorem qf35 : qc35.all (qck1 yT1 [qs34, qs24] qP 20000 [] qc35 qs35) = true := by decide +kernel
set_option maxRecDepth 100000 in
theorem qo35 : qOK yT1 86 1471 qs35 := qck_ok (m := 0) (qall_c qo34 (qall_c qo24 qall_n)) rfl qe35 qf35 (by decide +kernel) (by decide +kernel)
def qc36 : List qCt := []
set_option maxRecDepth 100000 in
theorem qe36 : qck0 yT1 [qs35] qP 20000 [] qc36 qs36 = true := by decide +kernel
set_option maxRecDepth 100000 in
theorem qf36 : qc36.all (qck1 yT1 [qs35] qP 20000 [] qc36 qs36) = true := by decide +kernel
set_option maxRecDepth 100000 in
theorem qo36 : qOK yT1 86 1471 qs36 := qck_ok (m := 0) (qall_c qo35 qall_n) rfl qe36 qf36 (by decide +kernel) (by decide +kernel)
def qc37 : List qCt := [((2, [[(.ofNat 0, .ofNat 0)], [(.ofNat 0, .ofNat 5)]], [(0, .inr (.inr (.ref 11))), (1, .inl (1, .ofNat 0))], [], []), [], [(false, .ofNat 4998, (0, .ofNat 0)), (false, .ofNat 6, (1, .ofNat 0)), (false, .ofNat 9000, (0, .ofNat 0)), (false, .ofNat 0, (0, .ofNat 0))])]
set_option maxRecDepth 100000 in
theorem qe37 : qck0 yT1 [] qP 20000 [] qc37 qs37 = true := by decide +kernel
set_option maxRecDepth 100000 in
theorem qf37 : qc37.all (qck1 yT1 [] qP 20000 [] qc37 qs37) = true := by decide +kernel
set_option maxRecDepth 100000 in
theorem qo37 : qOK yT1 86 1471 qs37 := qck_ok (m := 4) qall_n rfl qe37 qf37 (by decide +kernel) (by decide +kernel)
def qc38 : List qCt := [((14, [[(.ofNat 0, .ofNat 0)], [(.ofNat 0, .ofNat 99)], [(.ofNat 0, .ofNat 99)]], [(0, .inr (.inr (.ref 0))), (1, .inl (1, .ofNat 0)), (2, .inl (2, .ofNat 0))], [], []), [], [(false, .ofNat 4986, (0, .ofNat 0)), (false, .ofNat 100, (2, .ofNat 0)), (false, .ofNat 9000, (0, .ofNat 0)), (false, .ofNat 0, (0, .ofNat 0))])]
set_option maxRecDepth 100000 in
theorem qe38 : qck0 yT1 [qs24, qs37] qP 20000 [] qc38 qs38 = true := by decide +kernel
set_option maxRecDepth 100000 in
theorem qf38 : qc38.all (qck1 yT1 [qs24, qs37] qP 20000 [] qc38 qs38) = true := by decide +kernel
set_option maxRecDepth 100000 in
theorem qo38 : qOK yT1 86 1471 qs38 := qck_ok (m := 4) (qall_c qo24 (qall_c qo37 qall_n)) rfl qe38 qf38 (by decide +kernel) (by decide +kernel)
def qc39 : List qCt := [((10, [[(.ofNat 0, .ofNat 0)], [(.ofNat 0, .ofNat 5)], [(.ofNat 0, .ofNat 5)]], [(0, .inr (.inr (.ref 20))), (1, .inr (.inr (.ref 11))), (2, .inl (1, .ofNat 0))], [], [((20, 2), .inl (2, .ofNat 0)), ((11, 2), .inl (2, .ofNat 0))]), [], [(false, .ofNat 4990, (0, .ofNat 0)), (false, .ofNat 6, (1, .ofNat 0)), (false, .ofNat 9000, (0, .ofNat 0)), (false, .ofNat 0, (0, .ofNat 0))]),
  ((49, [[(.ofNat 0, .ofNat 0)], [(.ofNat 0, .ofNat 8)], [(.ofNat 0, .ofNat 8)], [(.ofNat 0, .ofNat 5)]], [(0, .inr (.inr (.ref 20))), (1, .inr (.inr (.ref 11))), (2, .inl (1, .ofNat 0))], [], [((20, 3), .inl (2, .ofNat 0)), ((11, 3), .inl (2, .ofNat 0)), ((20, 2), .inl (3, .ofNat 0)), ((11, 2), .inl (3, .ofNat 0))]), [], [(false, .ofNat 4951, (0, .ofNat 0)), (false, .ofNat 9, (1, .ofNat 0)), (false, .ofNat 9000, (0, .ofNat 0)), (false, .ofNat 0, (0, .ofNat 0))])]
set_option maxRecDepth 100000 in
theorem qe39 : qck0 yT1 [] qP 20000 [] qc39 qs39 = true := by decide +kernel
set_option maxRecDepth 100000 in
theorem qf39 : qc39.all (qck1 yT1 [] qP 20000 [] qc39 qs39) = true := by decide +kernel
set_option maxRecDepth 100000 in
theorem qo39 : qOK yT1 86 1471 qs39 := qck_ok (m := 4) qall_n rfl qe39 qf39 (by decide +kernel) (by decide +kernel)
def qc40 : List qCt := [((5, [[(.ofNat 0, .ofNat 0)], [(.ofNat 0, .ofNat 8)]], [(0, .inr (.inr (.ref 28))), (1, .inl (0, .negSucc 3)), (2, .inl (1, .ofNat 0)), (3, .inl (0, .ofNat 8))], [], []), [], [(false, .ofNat 4995, (0, .ofNat 0)), (false, .ofNat 9, (1, .ofNat 0)), (false, .ofNat 9000, (0, .ofNat 0)), (false, .ofNat 0, (0, .ofNat 0))])]
set_option maxRecDepth 100000 in
theorem qe40 : qck0 yT1 [] qP 20000 [] qc40 qs40 = true := by decide +kernel
set_option maxRecDepth 100000 in
theorem qf40 : qc40.all (qck1 yT1 [] qP 20000 [] qc40 qs40) = true := by decide +kernel
set_option maxRecDepth 100000 in
theorem qo40 : qOK yT1 86 1471 qs40 := qck_ok (m := 4) qall_n rfl qe40 qf40 (by decide +kernel) (by decide +kernel)
def qc41 : List qCt := [((5, [[(.ofNat 0, .ofNat 0)], [(.negSucc 2147483647, .ofNat 2147483647)], [(.negSucc 3, .negSucc 3), (.ofNat 0, .ofNat 4)], [(.ofNat 0, .ofNat 5)]], [(0, .inr (.inr (.ref 20))), (1, .inl (1, .ofNat 0)), (2, .inl (2, .ofNat 0)), (3, .inl (3, .ofNat 0))], [], []), [], [(false, .ofNat 4995, (0, .ofNat 0)), (false, .ofNat 6, (3, .ofNat 0)), (false, .ofNat 9000, (0, .ofNat 0)), (false, .ofNat 0, (0, .ofNat 0))])]
set_option maxRecDepth 100000 in
theorem qe41 : qck0 yT1 [] qP 20000 [] qc41 qs41 = true := by decide +kernel
set_option maxRecDepth 100000 in
theorem qf41 : qc41.all (qck1 yT1 [] qP 20000 [] qc41 qs41) = true := by decide +kernel
set_option maxRecDepth 100000 in
theorem qo41 : qOK yT1 86 1471 qs41 := qck_ok (m := 4) qall_n rfl qe41 qf41 (by decide +kernel) (by decide +kernel)
def qc42 : List qCt := [((5, [[(.ofNat 0, .ofNat 0)], [(.negSucc 3, .ofNat 99)], [(.ofNat 0, .ofNat 5)]], [(0, .inr (.inr (.ref 20))), (1, .inl (1, .ofNat 0)), (2, .inl (2, .ofNat 0))], [], []), [], [(false, .ofNat 4995, (0, .ofNat 0)), (false, .ofNat 6, (2, .ofNat 0)), (false, .ofNat 9000, (0, .ofNat 0)), (false, .ofNat 0, (0, .ofNat 0))])]
set_option maxRecDepth 100000 in
theorem qe42 : qck0 yT1 [] qP 20000 [] qc42 qs42 = true := by decide +kernel
set_option maxRecDepth 100000 in
theorem qf42 : qc42.all (qck1 yT1 [] qP 20000 [] qc42 qs42) = true := by decide +kernel
set_option maxRecDepth 100000 in
theorem qo42 : qOK yT1 86 1471 qs42 := qck_ok (m := 4) qall_n rfl qe42 qf42 (by decide +kernel) (by decide +kernel)
def qc43 : List qCt := []
set_option maxRecDepth 100000 in
theorem qe43 : qck0 yT1 [qs41, qs42] qP 20000 [] qc43 qs43 = true := by decide +kernel
set_option maxRecDepth 100000 in
theorem qf43 : qc43.all (qck1 yT1 [qs41, qs42] qP 20000 [] qc43 qs43) = true := by decide +kernel
set_option maxRecDepth 100000 in
theorem qo43 : qOK yT1 86 1471 qs43 := qck_ok (m := 0) (qall_c qo41 (qall_c qo42 qall_n)) rfl qe43 qf43 (by decide +kernel) (by decide +kernel)
def qc44 : List qCt := [((2, [[(.ofNat 0, .ofNat 0)], [(.ofNat 0, .ofNat 5)]], [(0, .inr (.inr (.ref 20))), (1, .inl (1, .ofNat 0))], [], []), [], [(false, .ofNat 4998, (0, .ofNat 0)), (false, .ofNat 6, (1, .ofNat 0)), (false, .ofNat 9000, (0, .ofNat 0)), (false, .ofNat 0, (0, .ofNat 0))])]
set_option maxRecDepth 100000 in
theorem qe44 : qck0 yT1 [] qP 20000 [] qc44 qs44 = true := by decide +kernel
set_option maxRecDepth 100000 in
theorem qf44 : qc44.all (qck1 yT1 [] qP 20000 [] qc44 qs44) = true := by decide +kernel
set_option maxRecDepth 100000 in
theorem qo44 : qOK yT1 86 1471 qs44 := qck_ok (m := 4) qall_n rfl qe44 qf44 (by decide +kernel) (by decide +kernel)
def qc45 : List qCt := [((27, [[(.ofNat 0, .ofNat 0)], [(.negSucc 2147483647, .ofNat 2147483647)], [(.ofNat 0, .ofNat 8)], [(.negSucc 3, .negSucc 3), (.ofNat 0, .ofNat 7)]], [(0, .inr (.inr (.ref 19))), (1, .inl (1, .ofNat 0)), (2, .inl (2, .ofNat 0))], [], [((19, 4), .inl (3, .ofNat 0))]), [], [(false, .ofNat 4973, (0, .ofNat 0)), (false, .ofNat 9, (2, .ofNat 0)), (false, .ofNat 9000, (0, .ofNat 0)), (false, .ofNat 0, (0, .ofNat 0))])]
set_option maxRecDepth 100000 in
theorem qe45 : qck0 yT1 [qs40, qs43, qs44] qP 20000 [] qc45 qs45 = true := by decide +kernel
set_option maxRecDepth 100000 in
theorem qf45 : qc45.all (qck1 yT1 [qs40, qs43, qs44] qP 20000 [] qc45 qs45) = true := by decide +kernel
set_option maxRecDepth 100000 in
theorem qo45 : qOK yT1 86 1471 qs45 := qck_ok (m := 4) (qall_c qo40 (qall_c qo43 (qall_c qo44 qall_n))) rfl qe45 qf45 (by decide +kernel) (by decide +kernel)
def qc46 : List qCt := [((5, [[(.ofNat 0, .ofNat 0)], [(.negSucc 3, .negSucc 3), (.ofNat 0, .ofNat 99)], [(.ofNat 0, .ofNat 5)]], [(0, .inr (.inr (.ref 20))), (1, .inl (1, .ofNat 0)), (2, .inl (2, .ofNat 0))], [], []), [], [(false, .ofNat 4995, (0, .ofNat 0)), (false, .ofNat 6, (2, .ofNat 0)), (false, .ofNat 9000, (0, .ofNat 0)), (false, .ofNat 0, (0, .ofNat 0))])]
set_option maxRecDepth 100000 in
theorem qe46 : qck0 yT1 [] qP 20000 [] qc46 qs46 = true := by decide +kernel
set_option maxRecDepth 100000 in
theorem qf46 : qc46.all (qck1 yT1 [] qP 20000 [] qc46 qs46) = true := by decide +kernel
set_option maxRecDepth 100000 in
theorem qo46 : qOK yT1 86 1471 qs46 := qck_ok (m := 4) qall_n rfl qe46 qf46 (by decide +kernel) (by decide +kernel)
def qc47 : List qCt := []
set_option maxRecDepth 100000 in
theorem qe47 : qck0 yT1 [qs39, qs45, qs46] qP 20000 [] qc47 qs47 = true := by decide +kernel
set_option maxRecDepth 100000 in
theorem qf47 : qc47.all (qck1 yT1 [qs39, qs45, qs46] qP 20000 [] qc47 qs47) = true := by decide +kernel
set_option maxRecDepth 100000 in
theorem qo47 : qOK yT1 86 1471 qs47 := qck_ok (m := 0) (qall_c qo39 (qall_c qo45 (qall_c qo46 qall_n))) rfl qe47 qf47 (by decide +kernel) (by decide +kernel)
def qc48 : List qCt := []
set_option maxRecDepth 100000 in
theorem qe48 : qck0 yT1 [qs39, qs45] qP 20000 [] qc48 qs48 = true := by decide +kernel
set_option maxRecDepth 100000 in
theorem qf48 : qc48.all (qck1 yT1 [qs39, qs45] qP 20000 [] qc48 qs48) = true := by decide +kernel
set_option maxRecDepth 100000 in
theorem qo48 : qOK yT1 86 1471 qs48 := qck_ok (m := 0) (qall_c qo39 (qall_c qo45 qall_n)) rfl qe48 qf48 (by decide +kernel) (by decide +kernel)
def qc49 : List qCt := [((16, [[(.ofNat 0, .ofNat 0)], [(.ofNat 1, .ofNat 61)]], [(0, .inr (.inr (.ref 0))), (1, .inl (1, .ofNat 0))], [], []), [], [(false, .ofNat 4984, (0, .ofNat 0)), (false, .ofNat 62, (1, .ofNat 0)), (false, .ofNat 9000, (0, .ofNat 0)), (false, .ofNat 0, (0, .ofNat 0))])]
set_option maxRecDepth 100000 in
theorem qe49 : qck0 yT1 [qs39, qs45] qP 20000 [] qc49 qs49 = true := by decide +kernel
set_option maxRecDepth 100000 in
theorem qf49 : qc49.all (qck1 yT1 [qs39, qs45] qP 20000 [] qc49 qs49) = true := by decide +kernel
set_option maxRecDepth 100000 in
theorem qo49 : qOK yT1 86 1471 qs49 := qck_ok (m := 4) (qall_c qo39 (qall_c qo45 qall_n)) rfl qe49 qf49 (by decide +kernel) (by decide +kernel)
def qc50 : List qCt := [((10, [[(.ofNat 0, .ofNat 0)], [(.ofNat 0, .ofNat 5)], [(.ofNat 0, .ofNat 5)]], [(0, .inr (.inr (.ref 30))), (1, .inr (.inr (.ref 11))), (2, .inl (1, .ofNat 0))], [], [((30, 2), .inl (2, .ofNat 0)), ((11, 2), .inl (2, .ofNat 0))]), [], [(false, .ofNat 4990, (0, .ofNat 0)), (false, .ofNat 6, (1, .ofNat 0)), (false, .ofNat 9000, (0, .ofNat 0)), (false, .ofNat 0, (0, .ofNat 0))]),
  ((49, [[(.ofNat 0, .ofNat 0)], [(.ofNat 0, .ofNat 8)], [(.ofNat 0, .ofNat 8)], [(.ofNat 0, .ofNat 5)]], [(0, .inr (.inr (.ref 30))), (1, .inr (.inr (.ref 11))), (2, .inl (1, .ofNat 0))], [], [((30, 3), .inl (2, .ofNat 0)), ((11, 3), .inl (2, .ofNat 0)), ((30, 2), .inl (3, .ofNat 0)), ((11, 2), .inl (3, .ofNat 0))]), [], [(false, .ofNat 4951, (0, .ofNat 0)), (false, .ofNat 9, (1, .ofNat 0)), (false, .ofNat 9000, (0, .ofNat 0)), (false, .ofNat 0, (0, .ofNat 0))])]
set_option maxRecDepth 100000 in
theorem qe50 : qck0 yT1 [] qP 20000 [] qc50 qs50 = true := by decide +kernel
set_option maxRecDepth 100000 in
theorem qf50 : qc50.all (qck1 yT1 [] qP 20000 [] qc50 qs50) = true := by decide +kernel
set_option maxRecDepth 100000 in
theorem qo50 : qOK yT1 86 1471 qs50 := qck_ok (m := 4) qall_n rfl qe50 qf50 (by decide +kernel) (by decide +kernel)
def qc51 : List qCt := []
set_option maxRecDepth 100000 in
theorem qe51 : qck0 yT1 [] qP 20000 [1] qc51 qs51 = true := by decide +kernel
set_option maxRecDepth 100000 in
theorem qf51 : qc51.all (qck1 yT1 [] qP 20000 [1] qc51 qs51) = true := by decide +kernel
set_option maxRecDepth 100000 in
theorem qo51 : qOK yT1 86 1471 qs51 := qck_ok (m := 0) qall_n rfl qe51 qf51 (by decide +kernel) (by decide +kernel)
def qc52 : List qCt := [((15, [[(.ofNat 0, .ofNat 0)], [(.negSucc 2147483646, .ofNat 2147483647)], [(.ofNat 0, .ofNat 5)]], [(0, .inr (.inr (.ref 29))), (1, .inl (1, .ofNat 0)), (2, .inl (2, .ofNat 0))], [], [((29, 4), .inl (1, .ofNat 0))]), [], [(false, .ofNat 4985, (0, .ofNat 0)), (false, .ofNat 6, (2, .ofNat 0)), (false, .ofNat 9000, (0, .ofNat 0)), (false, .ofNat 0, (0, .ofNat 0))])]
set_option maxRecDepth 100000 in
theorem qe52 : qck0 yT1 [] qP 20000 [] qc52 qs52 = true := by decide +kernel
set_option maxRecDepth 100000 in
theorem qf52 : qc52.all (qck1 yT1 [] qP 20000 [] qc52 qs52) = true := by decide +kernel
set_option maxRecDepth 100000 in
theorem qo52 : qOK yT1 86 1471 qs52 := qck_ok (m := 4) qall_n rfl qe52 qf52 (by decide +kernel) (by decide +kernel)
