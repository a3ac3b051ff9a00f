/-! the methods are as their summaries say, 13 -/
set_option maxRecDepth 100000 in
theorem qf193_14 : qck1 yT1 [qs134, qs174, qs190, qs191, qs142, qs192] qP 20000 [140] [qk193_14] qs193 qk193_14 = true := by decide +kernel
set_option maxRecDepth 100000 in
theorem qf193_15 : qck1 yT1 [qs134, qs174, qs190, qs191, qs142, qs192] qP 20000 [140] [qk193_15] qs193 qk193_15 = true := by decide +kernel
set_option maxRecDepth 100000 in
theorem qf193_16 : qck1 yT1 [qs134, qs174, qs190, qs191, qs142, qs192] qP 20000 [140] [qk193_16] qs193 qk193_16 = true := by decide +kernel
set_option maxRecDepth 100000 in
theorem qf193_17 : qck1 yT1 [qs134, qs174, qs190, qs191, qs142, qs192] qP 20000 [140] [qk193_17] qs193 qk193_17 = true := by decide +kernel
set_option maxRecDepth 100000 in
theorem qf193_18 : qck1 yT1 [qs134, qs174, qs190, qs191, qs142, qs192] qP 20000 [140] [qk193_18] qs193 qk193_18 = true := by decide +kernel
set_option maxRecDepth 100000 in
theorem qf193_19 : qck1 yT1 [qs134, qs174, qs190, qs191, qs142, qs192] qP 20000 [140] [] qs193 qk193_19 = true := by decide +kernel
set_option maxRecDepth 100000 in
theorem qf193_20 : qck1 yT1 [qs134, qs174, qs190, qs191, qs142, qs192] qP 20000 [140] [qk193_0, qk193_1, qk193_2, qk193_3, qk193_4, qk193_5, qk193_6, qk193_7, qk193_8, qk193_9, qk193_10, qk193_11, qk193_12, qk193_13, qk193_14, qk193_15, qk193_16, qk193_17, qk193_18, qk193_19] qs193 qk193_20 = true := by decide +kernel
set_option maxRecDepth 100000 in
theorem qg193_21 : qHs yT1 [qs134, qs174, qs190, qs191, qs142, qs192] qP 20000 [140] qs193 qc193 [] := qHs_n
set_option maxRecDepth 100000 in
theorem qg193_20 : qHs yT1 [qs134, qs174, qs190, qs191, qs142, qs192] qP 20000 [140] qs193 qc193 [qk193_20] := qHs_c (qsb_c (i := 0) rfl (qsb_c (i := 1) rfl (qsb_c (i := 2) rfl (qsb_c (i := 3) rfl (qsb_c (i := 4) rfl (qsb_c (i := 5) rfl (qsb_c (i := 6) rfl (qsb_c (i := 7) rfl (qsb_c (i := 8) rfl (qsb_c (i := 9) rfl (qsb_c (i := 10) rfl (qsb_c (i := 11) rfl (qsb_c (i := 12) rfl (qsb_c (i := 13) rfl (qsb_c (i := 14) rfl (qsb_c (i := 15) rfl (qsb_c (i := 16) rfl (qsb_c (i := 17) rfl (qsb_c (i := 18) rfl (qsb_c (i := 19) rfl qsb_n)))))))))))))))))))) qf193_20 qg193_21
set_option maxRecDepth 100000 in
theorem qg193_19 : qHs yT1 [qs134, qs174, qs190, qs191, qs142, qs192] qP 20000 [140] qs193 qc193 [qk193_19, qk193_20] := qHs_c qsb_n qf193_19 qg193_20
set_option maxRecDepth 100000 in
theorem qg193_18 : qHs yT1 [qs134, qs174, qs190, qs191, qs142, qs192] qP 20000 [140] qs193 qc193 [qk193_18, qk193_19, qk193_20] := qHs_c (qsb_c (i := 18) rfl qsb_n) qf193_18 qg193_19
set_option maxRecDepth 100000 in
theorem qg193_17 : qHs yT1 [qs134, qs174, qs190, qs191, qs142, qs192] qP 20000 [140] qs193 qc193 [qk193_17, qk193_18, qk193_19, qk193_20] := qHs_c (qsb_c (i := 17) rfl qsb_n) qf193_17 qg193_18
set_option maxRecDepth 100000 in
theorem qg193_16 : qHs yT1 [qs134, qs174, qs190, qs191, qs142, qs192] qP 20000 [140] qs193 qc193 [qk193_16, qk193_17, qk193_18, qk193_19, qk193_20] := qHs_c (qsb_c (i := 16) rfl qsb_n) qf193_16 qg193_17
set_option maxRecDepth 100000 in
theorem qg193_15 : qHs yT1 [qs134, qs174, qs190, qs191, qs142, qs192] qP 20000 [140] qs193 qc193 [qk193_15, qk193_16, qk193_17, qk193_18, qk193_19, qk193_20] := qHs_c (qsb_c (i := 15) rfl qsb_n) qf193_15 qg193_16
set_option maxRecDepth 100000 in
theorem qg193_14 : qHs yT1 [qs134, qs174, qs190, qs191, qs142, qs192] qP 20000 [140] qs193 qc193 [qk193_14, qk193_15, qk193_16, qk193_17, qk193_18, qk193_19, qk193_20] := qHs_c (qsb_c (i := 14) rfl qsb_n) qf193_14 qg193_15
set_option maxRecDepth 100000 in
theorem qg193_13 : qHs yT1 [qs134, qs174, qs190, qs191, qs142, qs192] qP 20000 [140] qs193 qc193 [qk193_13, qk193_14, qk193_15, qk193_16, qk193_17, qk193_18, qk193_19, qk193_20] := qHs_c (qsb_c (i := 13) rfl qsb_n) qf193_13 qg193_14
set_option maxRecDepth 100000 in
theorem qg193_12 : qHs yT1 [qs134, qs174, qs190, qs191, qs142, qs192] qP 20000 [140] qs193 qc193 [qk193_12, qk193_13, qk193_14, qk193_15, qk193_16, qk193_17, qk193_18, qk193_19, qk193_20] := qHs_c (qsb_c (i := 12) rfl qsb_n) qf193_12 qg193_13
set_option maxRecDepth 100000 in
theorem qg193_11 : qHs yT1 [qs134, qs174, qs190, qs191, qs142, qs192] qP 20000 [140] qs193 qc193 [qk193_11, qk193_12, qk193_13, qk193_14, qk193_15, qk193_16, qk193_17, qk193_18, qk193_19, qk193_20] := qHs_c (qsb_c (i := 11) rfl qsb_n) qf193_11 qg193_12
set_option maxRecDepth 100000 in
theorem qg193_10 : qHs yT1 [qs134, qs174, qs190, qs191, qs142, qs192] qP 20000 [140] qs193 qc193 [qk193_10, qk193_11, qk193_12, qk193_13, qk193_14, qk193_15, qk193_16, qk193_17, qk193_18, qk193_19, qk193_20] := qHs_c (qsb_c (i := 10) rfl qsb_n) qf193_10 qg193_11
set_option maxRecDepth 100000 in
theorem qg193_9 : qHs yT1 [qs134, qs174, qs190, qs191, qs142, qs192] qP 20000 [140] qs193 qc193 [qk193_9, qk193_10, qk193_11, qk193_12, qk193_13, qk193_14, qk193_15, qk193_16, qk193_17, qk193_18, qk193_19, qk193_20] := qHs_c (qsb_c (i := 9) rfl qsb_n) qf193_9 qg193_10
set_option maxRecDepth 100000 in
theorem qg193_8 : qHs yT1 [qs134, qs174, qs190, qs191, qs142, qs192] qP 20000 [140] qs193 qc193 [qk193_8, qk193_9, qk193_10, qk193_11, qk193_12, qk193_13, qk193_14, qk193_15, qk193_16, qk193_17, qk193_18, qk193_19, qk193_20] := qHs_c (qsb_c (i := 8) rfl qsb_n) qf193_8 qg193_9
set_option maxRecDepth 100000 in
theorem qg193_7 : qHs yT1 [qs134, qs174, qs190, qs191, qs142, qs192] qP 20000 [140] qs193 qc193 [qk193_7, qk193_8, qk193_9, qk193_10, qk193_11, qk193_12, qk193_13, qk193_14, qk193_15, qk193_16, qk193_17, qk193_18, qk193_19, qk193_20] := qHs_c (qsb_c (i := 7) rfl qsb_n) qf193_7 qg193_8
set_option maxRecDepth 100000 in
theorem qg193_6 : qHs yT1 [qs134, qs174, qs190, qs191, qs142, qs192] qP 20000 [140] qs193 qc193 [qk193_6, qk193_7, qk193_8, qk193_9, qk193_10, qk193_11, qk193_12, qk193_13, qk193_14, qk193_15, qk193_16, qk193_17, qk193_18, qk193_19, qk193_20] := qHs_c (qsb_c (i := 6) rfl qsb_n) qf193_6 qg193_7
set_option maxRecDepth 100000 in
theorem qg193_5 : qHs yT1 [qs134, qs174, qs190, qs191, qs142, qs192] qP 20000 [140] qs193 qc193 [qk193_5, qk193_6, qk193_7, qk193_8, qk193_9, qk193_10, qk193_11, qk193_12, qk193_13, qk193_14, qk193_15, qk193_16, qk193_17, qk193_18, qk193_19, qk193_20] := qHs_c (qsb_c (i := 5) rfl qsb_n) qf193_5 qg193_6
set_option maxRecDepth 100000 in
theorem qg193_4 : qHs yT1 [qs134, qs174, qs190, qs191, qs142, qs192] qP 20000 [140] qs193 qc193 [qk193_4, qk193_5, qk193_6, qk193_7, qk193_8, qk193_9, qk193_10, qk193_11, qk193_12, qk193_13, qk193_14, qk193_15, qk193_16, qk193_17, qk193_18, qk193_19, qk193_20] := qHs_c (qsb_c (i := 4) rfl qsb_n) qf193_4 qg193_5
set_option maxRecDepth 100000 in
theorem qg193_3 : qHs yT1 [qs134, qs174, qs190, qs191, qs142, qs192] qP 20000 [140] qs193 qc193 [qk193_3, qk193_4, qk193_5, qk193_6, qk193_7, qk193_8, qk193_9, qk193_10, qk193_11, qk193_12, qk193_13, qk193_14, qk193_15, qk193_16, qk193_17, qk193_18, qk193_19, qk193_20] := qHs_c (qsb_c (i := 3) rfl qsb_n) qf193_3 qg193_4
set_option maxRecDepth 100000 in
theorem qg193_2 : qHs yT1 [qs134, qs174, qs190, qs191, qs142, qs192] qP 20000 [140] qs193 qc193 [qk193_2, qk193_3, qk193_4, qk193_5, qk193_6, qk193_7, qk193_8, qk193_9, qk193_10, qk193_11, qk193_12, qk193_13, qk193_14, qk193_15, qk193_16, qk193_17, qk193_18, qk193_19, qk193_20] := qHs_c (qsb_c (i := 2) rfl qsb_n) qf193_2 qg193_3
set_option maxRecDepth 100000 in
theorem qg193_1 : qHs yT1 [qs134, qs174, qs190, qs191, qs142, qs192] qP 20000 [140] qs193 qc193 [qk193_1, qk193_2, qk193_3, qk193_4, qk193_5, qk193_6, qk193_7, qk193_8, qk193_9, qk193_10, qk193_11, qk193_12, qk193_13, qk193_14, qk193_15, qk193_16, qk193_17, qk193_18, qk193_19, qk193_20] := qHs_c (qsb_c (i := 1) rfl qsb_n) qf193_1 qg193_2
set_option maxRecDepth 100000 in
theorem qg193_0 : qHs yT1 [qs134, qs174, qs190, qs191, qs142, qs192] qP 20000 [140] qs193 qc193 [qk193_0, qk193_1, qk193_2, qk193_3, qk193_4, qk193_5, qk193_6, qk193_7, qk193_8, qk193_9, qk193_10, qk193_11, qk193_12, qk193_13, qk193_14, qk193_15, qk193_16, qk193_17, qk193_18, qk193_19, qk193_20] := qHs_c (qsb_c (i := 0) rfl qsb_n) qf193_0 qg193_1
set_option maxRecDepth 100000 in
theorem qo193 : qOK yT1 86 1471 qs193 := qck_ok2 (m := 4) (cuts := qc193) (qall_c qo134 (qall_c qo174 (qall_c qo190 (qall_c qo191 (qall_c qo142 (qall_c qo192 qall_n)))))) rfl (qsb_c (i := 20) rfl qsb_n) qe193 qg193_0 (by decide +kernel) (by decide +kernel)
def qc194 : List qCt := []
set_option maxRecDepth 100000 in
theorem qe194 : qck0 yT1 [] qP 20000 [] qc194 qs194 = true := by decide +kernel
set_option maxRecDepth 100000 in
theorem qf194 : qc194.all (qck1 yT1 [] qP 20000 [] qc194 qs194) = true := by decide +kernel
set_option maxRecDepth 100000 in
theorem qo194 : qOK yT1 86 1471 qs194 := qck_ok (m := 0) qall_n rfl qe194 qf194 (by decide +kernel) (by decide +kernel)
def qc195 : List qCt := [((7, [[(.ofNat 0, .ofNat 0)], [(.negSucc 2147483647, .ofNat 2147483647)], [(.negSucc 2147483647, .ofNat 2147483647)], [(.negSucc 2147483647, .ofNat 2147483647)], [(.ofNat 0, .ofNat 5)]], [(0, .inr (.inr (.ref 71))), (1, .inl (1, .ofNat 0)), (2, .inl (2, .ofNat 0)), (3, .inl (3, .ofNat 0)), (4, .inl (4, .ofNat 0))], [], []), [], [(false, .ofNat 4993, (0, .ofNat 0)), (false, .ofNat 6, (4, .ofNat 0)), (false, .ofNat 9000, (0, .ofNat 0)), (false, .ofNat 0, (0, .ofNat 0))])]
set_option maxRecDepth 100000 in
theorem qe195 : qck0 yT1 [] qP 20000 [] qc195 qs195 = true := by decide +kernel
set_option maxRecDepth 100000 in
theorem qf195 : qc195.all (qck1 yT1 [] qP 20000 [] qc195 qs195) = true := by decide +kernel
set_option maxRecDepth 100000 in
theorem qo195 : qOK yT1 86 1471 qs195 := qck_ok (m := 4) qall_n rfl qe195 qf195 (by decide +kernel) (by decide +kernel)
