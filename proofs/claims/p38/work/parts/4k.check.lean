/-! the methods are as their summaries say, 10 -/
def qc192 : List qCt := []
set_option maxRecDepth 100000 in
theorem qe192 : qck0 yT1 [] qP 20000 [] qc192 qs192 = true := by decide +kernel
set_option maxRecDepth 100000 in
theorem qf192 : qc192.all (qck1 yT1 [] qP 20000 [] qc192 qs192) = true := by decide +kernel
set_option maxRecDepth 100000 in
theorem qo192 : qOK yT1 86 1471 qs192 := qck_ok (m := 0) qall_n rfl qe192 qf192 (by decide +kernel) (by decide +kernel)
def qc193 : List qCt := []
set_option maxRecDepth 100000 in
theorem qe193 : qck0 yT1 [] qP 20000 [] qc193 qs193 = true := by decide +kernel
set_option maxRecDepth 100000 in
theorem qf193 : qc193.all (qck1 yT1 [] qP 20000 [] qc193 qs193) = true := by decide +kernel
set_option maxRecDepth 100000 in
theorem qo193 : qOK yT1 86 1471 qs193 := qck_ok (m := 0) qall_n rfl qe193 qf193 (by decide +kernel) (by decide +kernel)
def qk194_0 : qCt := ((67, [[(.ofNat 0, .ofNat 0)], [(.ofNat 0, .ofNat 3)], [(.ofNat 0, .ofNat 2)], [(.negSucc 2147483647, .ofNat 2147483647)], [(.ofNat 1, .ofNat 20)]], [(0, .inr (.inr (.ref 71))), (1, .inl (1, .ofNat 0)), (2, .inl (2, .ofNat 0)), (3, .inl (3, .ofNat 0)), (4, .inl (4, .ofNat 0)), (5, .inl (0, .ofNat 0)), (6, .inl (0, .ofNat 0)), (7, .inl (0, .ofNat 0))], [], []), [], [(false, .ofNat 4933, (0, .ofNat 0)), (false, .ofNat 20, (0, .ofNat 0)), (false, .ofNat 9000, (0, .ofNat 0)), (false, .ofNat 0, (0, .ofNat 0))])
def qk194_1 : qCt := ((67, [[(.ofNat 0, .ofNat 0)], [(.ofNat 0, .ofNat 3)], [(.ofNat 0, .ofNat 2)], [(.ofNat 0, .ofNat 39)], [(.ofNat 2, .ofNat 20)]], [(0, .inr (.inr (.ref 71))), (1, .inl (1, .ofNat 0)), (2, .inl (2, .ofNat 0)), (3, .inl (3, .ofNat 0)), (4, .inl (4, .ofNat 0)), (5, .inl (0, .ofNat 0)), (6, .inl (0, .ofNat 1)), (7, .inl (0, .ofNat 1))], [], []), [], [(false, .ofNat 4933, (0, .ofNat 0)), (false, .ofNat 20, (0, .ofNat 1)), (false, .ofNat 9000, (0, .ofNat 0)), (false, .ofNat 0, (0, .ofNat 0))])
def qk194_2 : qCt := ((67, [[(.ofNat 0, .ofNat 0)], [(.ofNat 0, .ofNat 3)], [(.ofNat 0, .ofNat 2)], [(.ofNat 0, .ofNat 30)], [(.ofNat 11, .ofNat 20)]], [(0, .inr (.inr (.ref 71))), (1, .inl (1, .ofNat 0)), (2, .inl (2, .ofNat 0)), (3, .inl (3, .ofNat 0)), (4, .inl (4, .ofNat 0)), (5, .inl (0, .ofNat 0)), (6, .inl (0, .ofNat 10)), (7, .inl (0, .ofNat 10))], [], []), [], [(false, .ofNat 4933, (0, .ofNat 0)), (false, .ofNat 20, (0, .ofNat 10)), (false, .ofNat 9000, (0, .ofNat 0)), (false, .ofNat 0, (0, .ofNat 0))])
def qk194_3 : qCt := ((67, [[(.ofNat 0, .ofNat 0)], [(.ofNat 0, .ofNat 3)], [(.ofNat 0, .ofNat 2)], [(.ofNat 0, .ofNat 29)], [(.ofNat 12, .ofNat 20)]], [(0, .inr (.inr (.ref 71))), (1, .inl (1, .ofNat 0)), (2, .inl (2, .ofNat 0)), (3, .inl (3, .ofNat 0)), (4, .inl (4, .ofNat 0)), (5, .inl (0, .ofNat 0)), (6, .inl (0, .ofNat 11)), (7, .inl (0, .ofNat 11))], [], []), [], [(false, .ofNat 4933, (0, .ofNat 0)), (false, .ofNat 20, (0, .ofNat 11)), (false, .ofNat 9000, (0, .ofNat 0)), (false, .ofNat 0, (0, .ofNat 0))])
def qk194_4 : qCt := ((67, [[(.ofNat 0, .ofNat 0)], [(.ofNat 0, .ofNat 3)], [(.ofNat 0, .ofNat 2)], [(.ofNat 0, .ofNat 28)], [(.ofNat 13, .ofNat 20)]], [(0, .inr (.inr (.ref 71))), (1, .inl (1, .ofNat 0)), (2, .inl (2, .ofNat 0)), (3, .inl (3, .ofNat 0)), (4, .inl (4, .ofNat 0)), (5, .inl (0, .ofNat 0)), (6, .inl (0, .ofNat 12)), (7, .inl (0, .ofNat 12))], [], []), [], [(false, .ofNat 4933, (0, .ofNat 0)), (false, .ofNat 20, (0, .ofNat 12)), (false, .ofNat 9000, (0, .ofNat 0)), (false, .ofNat 0, (0, .ofNat 0))])
def qk194_5 : qCt := ((67, [[(.ofNat 0, .ofNat 0)], [(.ofNat 0, .ofNat 3)], [(.ofNat 0, .ofNat 2)], [(.ofNat 0, .ofNat 27)], [(.ofNat 14, .ofNat 20)]], [(0, .inr (.inr (.ref 71))), (1, .inl (1, .ofNat 0)), (2, .inl (2, .ofNat 0)), (3, .inl (3, .ofNat 0)), (4, .inl (4, .ofNat 0)), (5, .inl (0, .ofNat 0)), (6, .inl (0, .ofNat 13)), (7, .inl (0, .ofNat 13))], [], []), [], [(false, .ofNat 4933, (0, .ofNat 0)), (false, .ofNat 20, (0, .ofNat 13)), (false, .ofNat 9000, (0, .ofNat 0)), (false, .ofNat 0, (0, .ofNat 0))])
def qk194_6 : qCt := ((67, [[(.ofNat 0, .ofNat 0)], [(.ofNat 0, .ofNat 3)], [(.ofNat 0, .ofNat 2)], [(.ofNat 0, .ofNat 26)], [(.ofNat 15, .ofNat 20)]], [(0, .inr (.inr (.ref 71))), (1, .inl (1, .ofNat 0)), (2, .inl (2, .ofNat 0)), (3, .inl (3, .ofNat 0)), (4, .inl (4, .ofNat 0)), (5, .inl (0, .ofNat 0)), (6, .inl (0, .ofNat 14)), (7, .inl (0, .ofNat 14))], [], []), [], [(false, .ofNat 4933, (0, .ofNat 0)), (false, .ofNat 20, (0, .ofNat 14)), (false, .ofNat 9000, (0, .ofNat 0)), (false, .ofNat 0, (0, .ofNat 0))])
def qk194_7 : qCt := ((67, [[(.ofNat 0, .ofNat 0)], [(.ofNat 0, .ofNat 3)], [(.ofNat 0, .ofNat 2)], [(.ofNat 0, .ofNat 25)], [(.ofNat 16, .ofNat 20)]], [(0, .inr (.inr (.ref 71))), (1, .inl (1, .ofNat 0)), (2, .inl (2, .ofNat 0)), (3, .inl (3, .ofNat 0)), (4, .inl (4, .ofNat 0)), (5, .inl (0, .ofNat 0)), (6, .inl (0, .ofNat 15)), (7, .inl (0, .ofNat 15))], [], []), [], [(false, .ofNat 4933, (0, .ofNat 0)), (false, .ofNat 20, (0, .ofNat 15)), (false, .ofNat 9000, (0, .ofNat 0)), (false, .ofNat 0, (0, .ofNat 0))])
def qk194_8 : qCt := ((67, [[(.ofNat 0, .ofNat 0)], [(.ofNat 0, .ofNat 3)], [(.ofNat 0, .ofNat 2)], [(.ofNat 0, .ofNat 24)], [(.ofNat 17, .ofNat 20)]], [(0, .inr (.inr (.ref 71))), (1, .inl (1, .ofNat 0)), (2, .inl (2, .ofNat 0)), (3, .inl (3, .ofNat 0)), (4, .inl (4, .ofNat 0)), (5, .inl (0, .ofNat 0)), (6, .inl (0, .ofNat 16)), (7, .inl (0, .ofNat 16))], [], []), [], [(false, .ofNat 4933, (0, .ofNat 0)), (false, .ofNat 20, (0, .ofNat 16)), (false, .ofNat 9000, (0, .ofNat 0)), (false, .ofNat 0, (0, .ofNat 0))])
def qk194_9 : qCt := ((67, [[(.ofNat 0, .ofNat 0)], [(.ofNat 0, .ofNat 3)], [(.ofNat 0, .ofNat 2)], [(.ofNat 0, .ofNat 23)], [(.ofNat 18, .ofNat 20)]], [(0, .inr (.inr (.ref 71))), (1, .inl (1, .ofNat 0)), (2, .inl (2, .ofNat 0)), (3, .inl (3, .ofNat 0)), (4, .inl (4, .ofNat 0)), (5, .inl (0, .ofNat 0)), (6, .inl (0, .ofNat 17)), (7, .inl (0, .ofNat 17))], [], []), [], [(false, .ofNat 4933, (0, .ofNat 0)), (false, .ofNat 20, (0, .ofNat 17)), (false, .ofNat 9000, (0, .ofNat 0)), (false, .ofNat 0, (0, .ofNat 0))])
def qk194_10 : qCt := ((67, [[(.ofNat 0, .ofNat 0)], [(.ofNat 0, .ofNat 3)], [(.ofNat 0, .ofNat 2)], [(.ofNat 0, .ofNat 22)], [(.ofNat 19, .ofNat 20)]], [(0, .inr (.inr (.ref 71))), (1, .inl (1, .ofNat 0)), (2, .inl (2, .ofNat 0)), (3, .inl (3, .ofNat 0)), (4, .inl (4, .ofNat 0)), (5, .inl (0, .ofNat 0)), (6, .inl (0, .ofNat 18)), (7, .inl (0, .ofNat 18))], [], []), [], [(false, .ofNat 4933, (0, .ofNat 0)), (false, .ofNat 20, (0, .ofNat 18)), (false, .ofNat 9000, (0, .ofNat 0)), (false, .ofNat 0, (0, .ofNat 0))])
def qk194_11 : qCt := ((67, [[(.ofNat 0, .ofNat 0)], [(.ofNat 0, .ofNat 3)], [(.ofNat 0, .ofNat 2)], [(.ofNat 0, .ofNat 21)], [(.ofNat 20, .ofNat 20)]], [(0, .inr (.inr (.ref 71))), (1, .inl (1, .ofNat 0)), (2, .inl (2, .ofNat 0)), (3, .inl (3, .ofNat 0)), (4, .inl (0, .ofNat 20)), (5, .inl (0, .ofNat 0)), (6, .inl (0, .ofNat 19)), (7, .inl (0, .ofNat 19))], [], []), [], [(false, .ofNat 4933, (0, .ofNat 0)), (false, .ofNat 20, (0, .ofNat 19)), (false, .ofNat 9000, (0, .ofNat 0)), (false, .ofNat 0, (0, .ofNat 0))])
def qk194_12 : qCt := ((67, [[(.ofNat 0, .ofNat 0)], [(.ofNat 0, .ofNat 3)], [(.ofNat 0, .ofNat 2)], [(.ofNat 0, .ofNat 38)], [(.ofNat 3, .ofNat 20)]], [(0, .inr (.inr (.ref 71))), (1, .inl (1, .ofNat 0)), (2, .inl (2, .ofNat 0)), (3, .inl (3, .ofNat 0)), (4, .inl (4, .ofNat 0)), (5, .inl (0, .ofNat 0)), (6, .inl (0, .ofNat 2)), (7, .inl (0, .ofNat 2))], [], []), [], [(false, .ofNat 4933, (0, .ofNat 0)), (false, .ofNat 20, (0, .ofNat 2)), (false, .ofNat 9000, (0, .ofNat 0)), (false, .ofNat 0, (0, .ofNat 0))])
def qk194_13 : qCt := ((67, [[(.ofNat 0, .ofNat 0)], [(.ofNat 0, .ofNat 3)], [(.ofNat 0, .ofNat 2)], [(.ofNat 0, .ofNat 37)], [(.ofNat 4, .ofNat 20)]], [(0, .inr (.inr (.ref 71))), (1, .inl (1, .ofNat 0)), (2, .inl (2, .ofNat 0)), (3, .inl (3, .ofNat 0)), (4, .inl (4, .ofNat 0)), (5, .inl (0, .ofNat 0)), (6, .inl (0, .ofNat 3)), (7, .inl (0, .ofNat 3))], [], []), [], [(false, .ofNat 4933, (0, .ofNat 0)), (false, .ofNat 20, (0, .ofNat 3)), (false, .ofNat 9000, (0, .ofNat 0)), (false, .ofNat 0, (0, .ofNat 0))])
def qk194_14 : qCt := ((67, [[(.ofNat 0, .ofNat 0)], [(.ofNat 0, .ofNat 3)], [(.ofNat 0, .ofNat 2)], [(.ofNat 0, .ofNat 36)], [(.ofNat 5, .ofNat 20)]], [(0, .inr (.inr (.ref 71))), (1, .inl (1, .ofNat 0)), (2, .inl (2, .ofNat 0)), (3, .inl (3, .ofNat 0)), (4, .inl (4, .ofNat 0)), (5, .inl (0, .ofNat 0)), (6, .inl (0, .ofNat 4)), (7, .inl (0, .ofNat 4))], [], []), [], [(false, .ofNat 4933, (0, .ofNat 0)), (false, .ofNat 20, (0, .ofNat 4)), (false, .ofNat 9000, (0, .ofNat 0)), (false, .ofNat 0, (0, .ofNat 0))])
def qk194_15 : qCt := ((67, [[(.ofNat 0, .ofNat 0)], [(.ofNat 0, .ofNat 3)], [(.ofNat 0, .ofNat 2)], [(.ofNat 0, .ofNat 35)], [(.ofNat 6, .ofNat 20)]], [(0, .inr (.inr (.ref 71))), (1, .inl (1, .ofNat 0)), (2, .inl (2, .ofNat 0)), (3, .inl (3, .ofNat 0)), (4, .inl (4, .ofNat 0)), (5, .inl (0, .ofNat 0)), (6, .inl (0, .ofNat 5)), (7, .inl (0, .ofNat 5))], [], []), [], [(false, .ofNat 4933, (0, .ofNat 0)), (false, .ofNat 20, (0, .ofNat 5)), (false, .ofNat 9000, (0, .ofNat 0)), (false, .ofNat 0, (0, .ofNat 0))])
def qk194_16 : qCt := ((67, [[(.ofNat 0, .ofNat 0)], [(.ofNat 0, .ofNat 3)], [(.ofNat 0, .ofNat 2)], [(.ofNat 0, .ofNat 34)], [(.ofNat 7, .ofNat 20)]], [(0, .inr (.inr (.ref 71))), (1, .inl (1, .ofNat 0)), (2, .inl (2, .ofNat 0)), (3, .inl (3, .ofNat 0)), (4, .inl (4, .ofNat 0)), (5, .inl (0, .ofNat 0)), (6, .inl (0, .ofNat 6)), (7, .inl (0, .ofNat 6))], [], []), [], [(false, .ofNat 4933, (0, .ofNat 0)), (false, .ofNat 20, (0, .ofNat 6)), (false, .ofNat 9000, (0, .ofNat 0)), (false, .ofNat 0, (0, .ofNat 0))])
def qk194_17 : qCt := ((67, [[(.ofNat 0, .ofNat 0)], [(.ofNat 0, .ofNat 3)], [(.ofNat 0, .ofNat 2)], [(.ofNat 0, .ofNat 33)], [(.ofNat 8, .ofNat 20)]], [(0, .inr (.inr (.ref 71))), (1, .inl (1, .ofNat 0)), (2, .inl (2, .ofNat 0)), (3, .inl (3, .ofNat 0)), (4, .inl (4, .ofNat 0)), (5, .inl (0, .ofNat 0)), (6, .inl (0, .ofNat 7)), (7, .inl (0, .ofNat 7))], [], []), [], [(false, .ofNat 4933, (0, .ofNat 0)), (false, .ofNat 20, (0, .ofNat 7)), (false, .ofNat 9000, (0, .ofNat 0)), (false, .ofNat 0, (0, .ofNat 0))])
def qk194_18 : qCt := ((67, [[(.ofNat 0, .ofNat 0)], [(.ofNat 0, .ofNat 3)], [(.ofNat 0, .ofNat 2)], [(.ofNat 0, .ofNat 32)], [(.ofNat 9, .ofNat 20)]], [(0, .inr (.inr (.ref 71))), (1, .inl (1, .ofNat 0)), (2, .inl (2, .ofNat 0)), (3, .inl (3, .ofNat 0)), (4, .inl (4, .ofNat 0)), (5, .inl (0, .ofNat 0)), (6, .inl (0, .ofNat 8)), (7, .inl (0, .ofNat 8))], [], []), [], [(false, .ofNat 4933, (0, .ofNat 0)), (false, .ofNat 20, (0, .ofNat 8)), (false, .ofNat 9000, (0, .ofNat 0)), (false, .ofNat 0, (0, .ofNat 0))])
def qk194_19 : qCt := ((67, [[(.ofNat 0, .ofNat 0)], [(.ofNat 0, .ofNat 3)], [(.ofNat 0, .ofNat 2)], [(.ofNat 0, .ofNat 31)], [(.ofNat 10, .ofNat 20)]], [(0, .inr (.inr (.ref 71))), (1, .inl (1, .ofNat 0)), (2, .inl (2, .ofNat 0)), (3, .inl (3, .ofNat 0)), (4, .inl (4, .ofNat 0)), (5, .inl (0, .ofNat 0)), (6, .inl (0, .ofNat 9)), (7, .inl (0, .ofNat 9))], [], []), [], [(false, .ofNat 4933, (0, .ofNat 0)), (false, .ofNat 20, (0, .ofNat 9)), (false, .ofNat 9000, (0, .ofNat 0)), (false, .ofNat 0, (0, .ofNat 0))])
def qc194 : List qCt := [qk194_0, qk194_1, qk194_2, qk194_3, qk194_4, qk194_5, qk194_6, qk194_7, qk194_8, qk194_9, qk194_10, qk194_11, qk194_12, qk194_13, qk194_14, qk194_15, qk194_16, qk194_17, qk194_18, qk194_19]
set_option maxRecDepth 100000 in
theorem qe194 : qck0 yT1 [qs134, qs175, qs191, qs192, qs143, qs193] qP 20000 [] [qk194_0] qs194 = true := by decide +kernel
set_option maxRecDepth 100000 in
theorem qf194_0 : qck1 yT1 [qs134, qs175, qs191, qs192, qs143, qs193] qP 20000 [] [qk194_1] qs194 qk194_0 = true := by decide +kernel
set_option maxRecDepth 100000 in
theorem qf194_1 : qck1 yT1 [qs134, qs175, qs191, qs192, qs143, qs193] qP 20000 [] [qk194_12] qs194 qk194_1 = true := by decide +kernel
set_option maxRecDepth 100000 in
theorem qf194_2 : qck1 yT1 [qs134, qs175, qs191, qs192, qs143, qs193] qP 20000 [] [qk194_3] qs194 qk194_2 = true := by decide +kernel
set_option maxRecDepth 100000 in
theorem qf194_3 : qck1 yT1 [qs134, qs175, qs191, qs192, qs143, qs193] qP 20000 [] [qk194_4] qs194 qk194_3 = true := by decide +kernel
set_option maxRecDepth 100000 in
theorem qf194_4 : qck1 yT1 [qs134, qs175, qs191, qs192, qs143, qs193] qP 20000 [] [qk194_5] qs194 qk194_4 = true := by decide +kernel
set_option maxRecDepth 100000 in
theorem qf194_5 : qck1 yT1 [qs134, qs175, qs191, qs192, qs143, qs193] qP 20000 [] [qk194_6] qs194 qk194_5 = true := by decide +kernel
set_option maxRecDepth 100000 in
theorem qf194_6 : qck1 yT1 [qs134, qs175, qs191, qs192, qs143, qs193] qP 20000 [] [qk194_7] qs194 qk194_6 = true := by decide +kernel
set_option maxRecDepth 100000 in
theorem qf194_7 : qck1 yT1 [qs134, qs175, qs191, qs192, qs143, qs193] qP 20000 [] [qk194_8] qs194 qk194_7 = true := by decide +kernel
set_option maxRecDepth 100000 in
theorem qf194_8 : qck1 yT1 [qs134, qs175, qs191, qs192, qs143, qs193] qP 20000 [] [qk194_9] qs194 qk194_8 = true := by decide +kernel
set_option maxRecDepth 100000 in
theorem qf194_9 : qck1 yT1 [qs134, qs175, qs191, qs192, qs143, qs193] qP 20000 [] [qk194_10] qs194 qk194_9 = true := by decide +kernel
set_option maxRecDepth 100000 in
theorem qf194_10 : qck1 yT1 [qs134, qs175, qs191, qs192, qs143, qs193] qP 20000 [] [qk194_11] qs194 qk194_10 = true := by decide +kernel
set_option maxRecDepth 100000 in
theorem qf194_11 : qck1 yT1 [qs134, qs175, qs191, qs192, qs143, qs193] qP 20000 [] [] qs194 qk194_11 = true := by decide +kernel
set_option maxRecDepth 100000 in
theorem qf194_12 : qck1 yT1 [qs134, qs175, qs191, qs192, qs143, qs193] qP 20000 [] [qk194_13] qs194 qk194_12 = true := by decide +kernel
set_option maxRecDepth 100000 in
theorem qf194_13 : qck1 yT1 [qs134, qs175, qs191, qs192, qs143, qs193] qP 20000 [] [qk194_14] qs194 qk194_13 = true := by decide +kernel
set_option maxRecDepth 100000 in
theorem qf194_14 : qck1 yT1 [qs134, qs175, qs191, qs192, qs143, qs193] qP 20000 [] [qk194_15] qs194 qk194_14 = true := by decide +kernel
set_option maxRecDepth 100000 in
theorem qf194_15 : qck1 yT1 [qs134, qs175, qs191, qs192, qs143, qs193] qP 20000 [] [qk194_16] qs194 qk194_15 = true := by decide +kernel
set_option maxRecDepth 100000 in
theorem qf194_16 : qck1 yT1 [qs134, qs175, qs191, qs192, qs143, qs193] qP 20000 [] [qk194_17] qs194 qk194_16 = true := by decide +kernel
set_option maxRecDepth 100000 in
theorem qf194_17 : qck1 yT1 [qs134, qs175, qs191, qs192, qs143, qs193] qP 20000 [] [qk194_18] qs194 qk194_17 = true := by decide +kernel
set_option maxRecDepth 100000 in
theorem qf194_18 : qck1 yT1 [qs134, qs175, qs191, qs192, qs143, qs193] qP 20000 [] [qk194_19] qs194 qk194_18 = true := by decide +kernel
set_option maxRecDepth 100000 in
theorem qf194_19 : qck1 yT1 [qs134, qs175, qs191, qs192, qs143, qs193] qP 20000 [] [qk194_2] qs194 qk194_19 = true := by decide +kernel
set_option maxRecDepth 100000 in
theorem qg194_20 : qHs yT1 [qs134, qs175, qs191, qs192, qs143, qs193] qP 20000 [] qs194 qc194 [] := qHs_n
set_option maxRecDepth 100000 in
theorem qg194_19 : qHs yT1 [qs134, qs175, qs191, qs192, qs143, qs193] qP 20000 [] qs194 qc194 [qk194_19] := qHs_c (qsb_c (i := 2) rfl qsb_n) qf194_19 qg194_20
set_option maxRecDepth 100000 in
theorem qg194_18 : qHs yT1 [qs134, qs175, qs191, qs192, qs143, qs193] qP 20000 [] qs194 qc194 [qk194_18, qk194_19] := qHs_c (qsb_c (i := 19) rfl qsb_n) qf194_18 qg194_19
set_option maxRecDepth 100000 in
theorem qg194_17 : qHs yT1 [qs134, qs175, qs191, qs192, qs143, qs193] qP 20000 [] qs194 qc194 [qk194_17, qk194_18, qk194_19] := qHs_c (qsb_c (i := 18) rfl qsb_n) qf194_17 qg194_18
set_option maxRecDepth 100000 in
theorem qg194_16 : qHs yT1 [qs134, qs175, qs191, qs192, qs143, qs193] qP 20000 [] qs194 qc194 [qk194_16, qk194_17, qk194_18, qk194_19] := qHs_c (qsb_c (i := 17) rfl qsb_n) qf194_16 qg194_17
set_option maxRecDepth 100000 in
theorem qg194_15 : qHs yT1 [qs134, qs175, qs191, qs192, qs143, qs193] qP 20000 [] qs194 qc194 [qk194_15, qk194_16, qk194_17, qk194_18, qk194_19] := qHs_c (qsb_c (i := 16) rfl qsb_n) qf194_15 qg194_16
set_option maxRecDepth 100000 in
theorem qg194_14 : qHs yT1 [qs134, qs175, qs191, qs192, qs143, qs193] qP 20000 [] qs194 qc194 [qk194_14, qk194_15, qk194_16, qk194_17, qk194_18, qk194_19] := qHs_c (qsb_c (i := 15) rfl qsb_n) qf194_14 qg194_15
set_option maxRecDepth 100000 in
theorem qg194_13 : qHs yT1 [qs134, qs175, qs191, qs192, qs143, qs193] qP 20000 [] qs194 qc194 [qk194_13, qk194_14, qk194_15, qk194_16, qk194_17, qk194_18, qk194_19] := qHs_c (qsb_c (i := 14) rfl qsb_n) qf194_13 qg194_14
set_option maxRecDepth 100000 in
theorem qg194_12 : qHs yT1 [qs134, qs175, qs191, qs192, qs143, qs193] qP 20000 [] qs194 qc194 [qk194_12, qk194_13, qk194_14, qk194_15, qk194_16, qk194_17, qk194_18, qk194_19] := qHs_c (qsb_c (i := 13) rfl qsb_n) qf194_12 qg194_13
set_option maxRecDepth 100000 in
theorem qg194_11 : qHs yT1 [qs134, qs175, qs191, qs192, qs143, qs193] qP 20000 [] qs194 qc194 [qk194_11, qk194_12, qk194_13, qk194_14, qk194_15, qk194_16, qk194_17, qk194_18, qk194_19] := qHs_c qsb_n qf194_11 qg194_12
set_option maxRecDepth 100000 in
theorem qg194_10 : qHs yT1 [qs134, qs175, qs191, qs192, qs143, qs193] qP 20000 [] qs194 qc194 [qk194_10, qk194_11, qk194_12, qk194_13, qk194_14, qk194_15, qk194_16, qk194_17, qk194_18, qk194_19] := qHs_c (qsb_c (i := 11) rfl qsb_n) qf194_10 qg194_11
set_option maxRecDepth 100000 in
theorem qg194_9 : qHs yT1 [qs134, qs175, qs191, qs192, qs143, qs193] qP 20000 [] qs194 qc194 [qk194_9, qk194_10, qk194_11, qk194_12, qk194_13, qk194_14, qk194_15, qk194_16, qk194_17, qk194_18, qk194_19] := qHs_c (qsb_c (i := 10) rfl qsb_n) qf194_9 qg194_10
set_option maxRecDepth 100000 in
theorem qg194_8 : qHs yT1 [qs134, qs175, qs191, qs192, qs143, qs193] qP 20000 [] qs194 qc194 [qk194_8, qk194_9, qk194_10, qk194_11, qk194_12, qk194_13, qk194_14, qk194_15, qk194_16, qk194_17, qk194_18, qk194_19] := qHs_c (qsb_c (i := 9) rfl qsb_n) qf194_8 qg194_9
set_option maxRecDepth 100000 in
theorem qg194_7 : qHs yT1 [qs134, qs175, qs191, qs192, qs143, qs193] qP 20000 [] qs194 qc194 [qk194_7, qk194_8, qk194_9, qk194_10, qk194_11, qk194_12, qk194_13, qk194_14, qk194_15, qk194_16, qk194_17, qk194_18, qk194_19] := qHs_c (qsb_c (i := 8) rfl qsb_n) qf194_7 qg194_8
set_option maxRecDepth 100000 in
theorem qg194_6 : qHs yT1 [qs134, qs175, qs191, qs192, qs143, qs193] qP 20000 [] qs194 qc194 [qk194_6, qk194_7, qk194_8, qk194_9, qk194_10, qk194_11, qk194_12, qk194_13, qk194_14, qk194_15, qk194_16, qk194_17, qk194_18, qk194_19] := qHs_c (qsb_c (i := 7) rfl qsb_n) qf194_6 qg194_7
set_option maxRecDepth 100000 in
theorem qg194_5 : qHs yT1 [qs134, qs175, qs191, qs192, qs143, qs193] qP 20000 [] qs194 qc194 [qk194_5, qk194_6, qk194_7, qk194_8, qk194_9, qk194_10, qk194_11, qk194_12, qk194_13, qk194_14, qk194_15, qk194_16, qk194_17, qk194_18, qk194_19] := qHs_c (qsb_c (i := 6) rfl qsb_n) qf194_5 qg194_6
set_option maxRecDepth 100000 in
theorem qg194_4 : qHs yT1 [qs134, qs175, qs191, qs192, qs143, qs193] qP 20000 [] qs194 qc194 [qk194_4, qk194_5, qk194_6, qk194_7, qk194_8, qk194_9, qk194_10, qk194_11, qk194_12, qk194_13, qk194_14, qk194_15, qk194_16, qk194_17, qk194_18, qk194_19] := qHs_c (qsb_c (i := 5) rfl qsb_n) qf194_4 qg194_5
set_option maxRecDepth 100000 in
theorem qg194_3 : qHs yT1 [qs134, qs175, qs191, qs192, qs143, qs193] qP 20000 [] qs194 qc194 [qk194_3, qk194_4, qk194_5, qk194_6, qk194_7, qk194_8, qk194_9, qk194_10, qk194_11, qk194_12, qk194_13, qk194_14, qk194_15, qk194_16, qk194_17, qk194_18, qk194_19] := qHs_c (qsb_c (i := 4) rfl qsb_n) qf194_3 qg194_4
set_option maxRecDepth 100000 in
theorem qg194_2 : qHs yT1 [qs134, qs175, qs191, qs192, qs143, qs193] qP 20000 [] qs194 qc194 [qk194_2, qk194_3, qk194_4, qk194_5, qk194_6, qk194_7, qk194_8, qk194_9, qk194_10, qk194_11, qk194_12, qk194_13, qk194_14, qk194_15, qk194_16, qk194_17, qk194_18, qk194_19] := qHs_c (qsb_c (i := 3) rfl qsb_n) qf194_2 qg194_3
set_option maxRecDepth 100000 in
theorem qg194_1 : qHs yT1 [qs134, qs175, qs191, qs192, qs143, qs193] qP 20000 [] qs194 qc194 [qk194_1, qk194_2, qk194_3, qk194_4, qk194_5, qk194_6, qk194_7, qk194_8, qk194_9, qk194_10, qk194_11, qk194_12, qk194_13, qk194_14, qk194_15, qk194_16, qk194_17, qk194_18, qk194_19] := qHs_c (qsb_c (i := 12) rfl qsb_n) qf194_1 qg194_2
set_option maxRecDepth 100000 in
theorem qg194_0 : qHs yT1 [qs134, qs175, qs191, qs192, qs143, qs193] qP 20000 [] qs194 qc194 [qk194_0, qk194_1, qk194_2, qk194_3, qk194_4, qk194_5, qk194_6, qk194_7, qk194_8, qk194_9, qk194_10, qk194_11, qk194_12, qk194_13, qk194_14, qk194_15, qk194_16, qk194_17, qk194_18, qk194_19] := qHs_c (qsb_c (i := 1) rfl qsb_n) qf194_0 qg194_1
set_option maxRecDepth 100000 in
theorem qo194 : qOK yT1 86 1471 qs194 := qck_ok2 (m := 4) (cuts := qc194) (qall_c qo134 (qall_c qo175 (qall_c qo191 (qall_c qo192 (qall_c qo143 (qall_c qo193 qall_n)))))) rfl (qsb_c (i := 0) rfl qsb_n) qe194 qg194_0 (by decide +kernel) (by decide +kernel)
def qc195 : List qCt := []
set_option maxRecDepth 100000 in
theorem qe195 : qck0 yT1 [] qP 20000 [] qc195 qs195 = true := by decide +kernel
set_option maxRecDepth 100000 in
theorem qf195 : qc195.all (qck1 yT1 [] qP 20000 [] qc195 qs195) = true := by decide +kernel
set_option maxRecDepth 100000 in
theorem qo195 : qOK yT1 86 1471 qs195 := qck_ok (m := 0) qall_n rfl qe195 qf195 (by decide +kernel) (by decide +kernel)
def qc196 : List qCt := [((7, [[(.ofNat 0, .ofNat 0)], [(.negSucc 2147483647, .ofNat 2147483647)], [(.negSucc 2147483647, .ofNat 2147483647)], [(.negSucc 2147483647, .ofNat 2147483647)], [(.ofNat 0, .ofNat 5)]], [(0, .inr (.inr (.ref 71))), (1, .inl (1, .ofNat 0)), (2, .inl (2, .ofNat 0)), (3, .inl (3, .ofNat 0)), (4, .inl (4, .ofNat 0))], [], []), [], [(false, .ofNat 4993, (0, .ofNat 0)), (false, .ofNat 6, (4, .ofNat 0)), (false, .ofNat 9000, (0, .ofNat 0)), (false, .ofNat 0, (0, .ofNat 0))])]
set_option maxRecDepth 100000 in
theorem qe196 : qck0 yT1 [] qP 20000 [] qc196 qs196 = true := by decide +kernel
set_option maxRecDepth 100000 in
theorem qf196 : qc196.all (qck1 yT1 [] qP 20000 [] qc196 qs196) = true := by decide +kernel
set_option maxRecDepth 100000 in
theorem qo196 : qOK yT1 86 1471 qs196 := qck_ok (m := 4) qall_n rfl qe196 qf196 (by decide +kernel) (by decide +kernel)
