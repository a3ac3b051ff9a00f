/-! the methods are as their summaries say, 10 -/
def qc163_0 : List qCt := [((67, [[(0, 0)], [(0, 3)], [(0, 2)], [(0, 0)], [(2, 20)], [(1, 20)]], [(0, .inr (.inr (.ref 71))), (1, .inl (1, 0)), (2, .inl (2, 0)), (3, .inl (0, 0)), (4, .inl (4, 0)), (5, .inl (0, 0)), (6, .inl (5, 0)), (7, .inl (5, 0))], [], []), [], [(false, 4933, (0, 0)), (false, 21, (5, 0)), (false, 9000, (0, 0)), (false, 0, (0, 0))])]
def qc163_1 : List qCt := [((67, [[(0, 0)], [(0, 3)], [(0, 2)], [(1, 1)], [(2, 20)], [(1, 20)]], [(0, .inr (.inr (.ref 71))), (1, .inl (1, 0)), (2, .inl (2, 0)), (3, .inl (0, 1)), (4, .inl (4, 0)), (5, .inl (0, 0)), (6, .inl (5, 0)), (7, .inl (5, 0))], [], []), [], [(false, 4933, (0, 0)), (false, 21, (5, 0)), (false, 9000, (0, 0)), (false, 0, (0, 0))])]
def qc163_2 : List qCt := [((67, [[(0, 0)], [(0, 3)], [(0, 2)], [(10, 10)], [(2, 20)], [(1, 20)]], [(0, .inr (.inr (.ref 71))), (1, .inl (1, 0)), (2, .inl (2, 0)), (3, .inl (0, 10)), (4, .inl (4, 0)), (5, .inl (0, 0)), (6, .inl (5, 0)), (7, .inl (5, 0))], [], []), [], [(false, 4933, (0, 0)), (false, 21, (5, 0)), (false, 9000, (0, 0)), (false, 0, (0, 0))])]
def qc163_3 : List qCt := [((67, [[(0, 0)], [(0, 3)], [(0, 2)], [(11, 11)], [(2, 20)], [(1, 20)]], [(0, .inr (.inr (.ref 71))), (1, .inl (1, 0)), (2, .inl (2, 0)), (3, .inl (0, 11)), (4, .inl (4, 0)), (5, .inl (0, 0)), (6, .inl (5, 0)), (7, .inl (5, 0))], [], []), [], [(false, 4933, (0, 0)), (false, 21, (5, 0)), (false, 9000, (0, 0)), (false, 0, (0, 0))])]
def qc163_4 : List qCt := [((67, [[(0, 0)], [(0, 3)], [(0, 2)], [(12, 12)], [(2, 20)], [(1, 20)]], [(0, .inr (.inr (.ref 71))), (1, .inl (1, 0)), (2, .inl (2, 0)), (3, .inl (0, 12)), (4, .inl (4, 0)), (5, .inl (0, 0)), (6, .inl (5, 0)), (7, .inl (5, 0))], [], []), [], [(false, 4933, (0, 0)), (false, 21, (5, 0)), (false, 9000, (0, 0)), (false, 0, (0, 0))])]
def qc163_5 : List qCt := [((67, [[(0, 0)], [(0, 3)], [(0, 2)], [(13, 13)], [(2, 20)], [(1, 20)]], [(0, .inr (.inr (.ref 71))), (1, .inl (1, 0)), (2, .inl (2, 0)), (3, .inl (0, 13)), (4, .inl (4, 0)), (5, .inl (0, 0)), (6, .inl (5, 0)), (7, .inl (5, 0))], [], []), [], [(false, 4933, (0, 0)), (false, 21, (5, 0)), (false, 9000, (0, 0)), (false, 0, (0, 0))])]
def qc163_6 : List qCt := [((67, [[(0, 0)], [(0, 3)], [(0, 2)], [(14, 14)], [(2, 20)], [(1, 20)]], [(0, .inr (.inr (.ref 71))), (1, .inl (1, 0)), (2, .inl (2, 0)), (3, .inl (0, 14)), (4, .inl (4, 0)), (5, .inl (0, 0)), (6, .inl (5, 0)), (7, .inl (5, 0))], [], []), [], [(false, 4933, (0, 0)), (false, 21, (5, 0)), (false, 9000, (0, 0)), (false, 0, (0, 0))])]
def qc163_7 : List qCt := [((67, [[(0, 0)], [(0, 3)], [(0, 2)], [(15, 15)], [(2, 20)], [(1, 20)]], [(0, .inr (.inr (.ref 71))), (1, .inl (1, 0)), (2, .inl (2, 0)), (3, .inl (0, 15)), (4, .inl (4, 0)), (5, .inl (0, 0)), (6, .inl (5, 0)), (7, .inl (5, 0))], [], []), [], [(false, 4933, (0, 0)), (false, 21, (5, 0)), (false, 9000, (0, 0)), (false, 0, (0, 0))])]
def qc163_8 : List qCt := [((67, [[(0, 0)], [(0, 3)], [(0, 2)], [(16, 16)], [(2, 20)], [(1, 20)]], [(0, .inr (.inr (.ref 71))), (1, .inl (1, 0)), (2, .inl (2, 0)), (3, .inl (0, 16)), (4, .inl (4, 0)), (5, .inl (0, 0)), (6, .inl (5, 0)), (7, .inl (5, 0))], [], []), [], [(false, 4933, (0, 0)), (false, 21, (5, 0)), (false, 9000, (0, 0)), (false, 0, (0, 0))])]
def qc163_9 : List qCt := [((67, [[(0, 0)], [(0, 3)], [(0, 2)], [(17, 17)], [(2, 20)], [(1, 20)]], [(0, .inr (.inr (.ref 71))), (1, .inl (1, 0)), (2, .inl (2, 0)), (3, .inl (0, 17)), (4, .inl (4, 0)), (5, .inl (0, 0)), (6, .inl (5, 0)), (7, .inl (5, 0))], [], []), [], [(false, 4933, (0, 0)), (false, 21, (5, 0)), (false, 9000, (0, 0)), (false, 0, (0, 0))])]
def qc163_10 : List qCt := [((67, [[(0, 0)], [(0, 3)], [(0, 2)], [(18, 18)], [(2, 20)], [(1, 20)]], [(0, .inr (.inr (.ref 71))), (1, .inl (1, 0)), (2, .inl (2, 0)), (3, .inl (0, 18)), (4, .inl (4, 0)), (5, .inl (0, 0)), (6, .inl (5, 0)), (7, .inl (5, 0))], [], []), [], [(false, 4933, (0, 0)), (false, 21, (5, 0)), (false, 9000, (0, 0)), (false, 0, (0, 0))])]
def qc163_11 : List qCt := [((67, [[(0, 0)], [(0, 3)], [(0, 2)], [(19, 19)], [(2, 20)], [(1, 20)]], [(0, .inr (.inr (.ref 71))), (1, .inl (1, 0)), (2, .inl (2, 0)), (3, .inl (0, 19)), (4, .inl (4, 0)), (5, .inl (0, 0)), (6, .inl (5, 0)), (7, .inl (5, 0))], [], []), [], [(false, 4933, (0, 0)), (false, 21, (5, 0)), (false, 9000, (0, 0)), (false, 0, (0, 0))])]
def qc163_12 : List qCt := [((67, [[(0, 0)], [(0, 3)], [(0, 2)], [(2, 2)], [(2, 20)], [(1, 20)]], [(0, .inr (.inr (.ref 71))), (1, .inl (1, 0)), (2, .inl (2, 0)), (3, .inl (0, 2)), (4, .inl (4, 0)), (5, .inl (0, 0)), (6, .inl (5, 0)), (7, .inl (5, 0))], [], []), [], [(false, 4933, (0, 0)), (false, 21, (5, 0)), (false, 9000, (0, 0)), (false, 0, (0, 0))])]
def qc163_13 : List qCt := [((67, [[(0, 0)], [(0, 3)], [(0, 2)], [(20, 20)], [(2, 20)], [(1, 20)]], [(0, .inr (.inr (.ref 71))), (1, .inl (1, 0)), (2, .inl (2, 0)), (3, .inl (0, 20)), (4, .inl (4, 0)), (5, .inl (0, 0)), (6, .inl (5, 0)), (7, .inl (5, 0))], [], []), [], [(false, 4933, (0, 0)), (false, 21, (5, 0)), (false, 9000, (0, 0)), (false, 0, (0, 0))])]
def qc163_14 : List qCt := [((67, [[(0, 0)], [(0, 3)], [(0, 2)], [(21, 21)], [(2, 20)], [(1, 20)]], [(0, .inr (.inr (.ref 71))), (1, .inl (1, 0)), (2, .inl (2, 0)), (3, .inl (0, 21)), (4, .inl (4, 0)), (5, .inl (0, 0)), (6, .inl (5, 0)), (7, .inl (5, 0))], [], []), [], [(false, 4933, (0, 0)), (false, 21, (5, 0)), (false, 9000, (0, 0)), (false, 0, (0, 0))])]
def qc163_15 : List qCt := [((67, [[(0, 0)], [(0, 3)], [(0, 2)], [(22, 22)], [(2, 20)], [(1, 20)]], [(0, .inr (.inr (.ref 71))), (1, .inl (1, 0)), (2, .inl (2, 0)), (3, .inl (0, 22)), (4, .inl (4, 0)), (5, .inl (0, 0)), (6, .inl (5, 0)), (7, .inl (5, 0))], [], []), [], [(false, 4933, (0, 0)), (false, 21, (5, 0)), (false, 9000, (0, 0)), (false, 0, (0, 0))])]
def qc163_16 : List qCt := [((67, [[(0, 0)], [(0, 3)], [(0, 2)], [(23, 23)], [(2, 20)], [(1, 20)]], [(0, .inr (.inr (.ref 71))), (1, .inl (1, 0)), (2, .inl (2, 0)), (3, .inl (0, 23)), (4, .inl (4, 0)), (5, .inl (0, 0)), (6, .inl (5, 0)), (7, .inl (5, 0))], [], []), [], [(false, 4933, (0, 0)), (false, 21, (5, 0)), (false, 9000, (0, 0)), (false, 0, (0, 0))])]
def qc163_17 : List qCt := [((67, [[(0, 0)], [(0, 3)], [(0, 2)], [(24, 24)], [(2, 20)], [(1, 16)]], [(0, .inr (.inr (.ref 71))), (1, .inl (1, 0)), (2, .inl (2, 0)), (3, .inl (0, 24)), (4, .inl (4, 0)), (5, .inl (0, 0)), (6, .inl (5, 0)), (7, .inl (5, 0))], [], []), [], [(false, 4933, (0, 0)), (false, 21, (5, 0)), (false, 9000, (0, 0)), (false, 0, (0, 0))])]
def qc163_18 : List qCt := [((67, [[(0, 0)], [(0, 3)], [(0, 2)], [(25, 25)], [(2, 20)], [(1, 15)]], [(0, .inr (.inr (.ref 71))), (1, .inl (1, 0)), (2, .inl (2, 0)), (3, .inl (0, 25)), (4, .inl (4, 0)), (5, .inl (0, 0)), (6, .inl (5, 0)), (7, .inl (5, 0))], [], []), [], [(false, 4933, (0, 0)), (false, 21, (5, 0)), (false, 9000, (0, 0)), (false, 0, (0, 0))])]
def qc163_19 : List qCt := [((67, [[(0, 0)], [(0, 3)], [(0, 2)], [(26, 26)], [(2, 20)], [(1, 14)]], [(0, .inr (.inr (.ref 71))), (1, .inl (1, 0)), (2, .inl (2, 0)), (3, .inl (0, 26)), (4, .inl (4, 0)), (5, .inl (0, 0)), (6, .inl (5, 0)), (7, .inl (5, 0))], [], []), [], [(false, 4933, (0, 0)), (false, 21, (5, 0)), (false, 9000, (0, 0)), (false, 0, (0, 0))])]
def qc163_20 : List qCt := [((67, [[(0, 0)], [(0, 3)], [(0, 2)], [(27, 27)], [(2, 20)], [(1, 14)]], [(0, .inr (.inr (.ref 71))), (1, .inl (1, 0)), (2, .inl (2, 0)), (3, .inl (0, 27)), (4, .inl (4, 0)), (5, .inl (0, 0)), (6, .inl (5, 0)), (7, .inl (5, 0))], [], []), [], [(false, 4933, (0, 0)), (false, 21, (5, 0)), (false, 9000, (0, 0)), (false, 0, (0, 0))])]
def qc163_21 : List qCt := [((67, [[(0, 0)], [(0, 3)], [(0, 2)], [(28, 28)], [(2, 20)], [(1, 14)]], [(0, .inr (.inr (.ref 71))), (1, .inl (1, 0)), (2, .inl (2, 0)), (3, .inl (0, 28)), (4, .inl (4, 0)), (5, .inl (0, 0)), (6, .inl (5, 0)), (7, .inl (5, 0))], [], []), [], [(false, 4933, (0, 0)), (false, 21, (5, 0)), (false, 9000, (0, 0)), (false, 0, (0, 0))])]
def qc163_22 : List qCt := [((67, [[(0, 0)], [(0, 3)], [(0, 2)], [(29, 29)], [(2, 20)], [(1, 14)]], [(0, .inr (.inr (.ref 71))), (1, .inl (1, 0)), (2, .inl (2, 0)), (3, .inl (0, 29)), (4, .inl (4, 0)), (5, .inl (0, 0)), (6, .inl (5, 0)), (7, .inl (5, 0))], [], []), [], [(false, 4933, (0, 0)), (false, 21, (5, 0)), (false, 9000, (0, 0)), (false, 0, (0, 0))])]
def qc163_23 : List qCt := [((67, [[(0, 0)], [(0, 3)], [(0, 2)], [(3, 3)], [(2, 20)], [(1, 20)]], [(0, .inr (.inr (.ref 71))), (1, .inl (1, 0)), (2, .inl (2, 0)), (3, .inl (0, 3)), (4, .inl (4, 0)), (5, .inl (0, 0)), (6, .inl (5, 0)), (7, .inl (5, 0))], [], []), [], [(false, 4933, (0, 0)), (false, 21, (5, 0)), (false, 9000, (0, 0)), (false, 0, (0, 0))])]
def qc163_24 : List qCt := [((67, [[(0, 0)], [(0, 3)], [(0, 2)], [(30, 30)], [(2, 20)], [(1, 10)]], [(0, .inr (.inr (.ref 71))), (1, .inl (1, 0)), (2, .inl (2, 0)), (3, .inl (0, 30)), (4, .inl (4, 0)), (5, .inl (0, 0)), (6, .inl (5, 0)), (7, .inl (5, 0))], [], []), [], [(false, 4933, (0, 0)), (false, 21, (5, 0)), (false, 9000, (0, 0)), (false, 0, (0, 0))])]
def qc163_25 : List qCt := [((67, [[(0, 0)], [(0, 3)], [(0, 2)], [(31, 31)], [(2, 20)], [(1, 9)]], [(0, .inr (.inr (.ref 71))), (1, .inl (1, 0)), (2, .inl (2, 0)), (3, .inl (0, 31)), (4, .inl (4, 0)), (5, .inl (0, 0)), (6, .inl (5, 0)), (7, .inl (5, 0))], [], []), [], [(false, 4933, (0, 0)), (false, 21, (5, 0)), (false, 9000, (0, 0)), (false, 0, (0, 0))])]
def qc163_26 : List qCt := [((67, [[(0, 0)], [(0, 3)], [(0, 2)], [(32, 32)], [(2, 20)], [(1, 8)]], [(0, .inr (.inr (.ref 71))), (1, .inl (1, 0)), (2, .inl (2, 0)), (3, .inl (0, 32)), (4, .inl (4, 0)), (5, .inl (0, 0)), (6, .inl (5, 0)), (7, .inl (5, 0))], [], []), [], [(false, 4933, (0, 0)), (false, 21, (5, 0)), (false, 9000, (0, 0)), (false, 0, (0, 0))])]
def qc163_27 : List qCt := [((67, [[(0, 0)], [(0, 3)], [(0, 2)], [(33, 33)], [(2, 20)], [(1, 7)]], [(0, .inr (.inr (.ref 71))), (1, .inl (1, 0)), (2, .inl (2, 0)), (3, .inl (0, 33)), (4, .inl (4, 0)), (5, .inl (0, 0)), (6, .inl (5, 0)), (7, .inl (5, 0))], [], []), [], [(false, 4933, (0, 0)), (false, 21, (5, 0)), (false, 9000, (0, 0)), (false, 0, (0, 0))])]
def qc163_28 : List qCt := [((67, [[(0, 0)], [(0, 3)], [(0, 2)], [(34, 34)], [(2, 20)], [(1, 6)]], [(0, .inr (.inr (.ref 71))), (1, .inl (1, 0)), (2, .inl (2, 0)), (3, .inl (0, 34)), (4, .inl (4, 0)), (5, .inl (0, 0)), (6, .inl (5, 0)), (7, .inl (5, 0))], [], []), [], [(false, 4933, (0, 0)), (false, 21, (5, 0)), (false, 9000, (0, 0)), (false, 0, (0, 0))])]
def qc163_29 : List qCt := [((67, [[(0, 0)], [(0, 3)], [(0, 2)], [(35, 35)], [(2, 20)], [(1, 5)]], [(0, .inr (.inr (.ref 71))), (1, .inl (1, 0)), (2, .inl (2, 0)), (3, .inl (0, 35)), (4, .inl (4, 0)), (5, .inl (0, 0)), (6, .inl (5, 0)), (7, .inl (5, 0))], [], []), [], [(false, 4933, (0, 0)), (false, 21, (5, 0)), (false, 9000, (0, 0)), (false, 0, (0, 0))])]
def qc163_30 : List qCt := [((67, [[(0, 0)], [(0, 3)], [(0, 2)], [(36, 36)], [(2, 20)], [(1, 4)]], [(0, .inr (.inr (.ref 71))), (1, .inl (1, 0)), (2, .inl (2, 0)), (3, .inl (0, 36)), (4, .inl (4, 0)), (5, .inl (0, 0)), (6, .inl (5, 0)), (7, .inl (5, 0))], [], []), [], [(false, 4933, (0, 0)), (false, 21, (5, 0)), (false, 9000, (0, 0)), (false, 0, (0, 0))])]
def qc163_31 : List qCt := [((67, [[(0, 0)], [(0, 3)], [(0, 2)], [(37, 37)], [(2, 20)], [(1, 3)]], [(0, .inr (.inr (.ref 71))), (1, .inl (1, 0)), (2, .inl (2, 0)), (3, .inl (0, 37)), (4, .inl (4, 0)), (5, .inl (0, 0)), (6, .inl (5, 0)), (7, .inl (5, 0))], [], []), [], [(false, 4933, (0, 0)), (false, 21, (5, 0)), (false, 9000, (0, 0)), (false, 0, (0, 0))])]
def qc163_32 : List qCt := [((67, [[(0, 0)], [(0, 3)], [(0, 2)], [(38, 38)], [(2, 20)], [(1, 2)]], [(0, .inr (.inr (.ref 71))), (1, .inl (1, 0)), (2, .inl (2, 0)), (3, .inl (0, 38)), (4, .inl (4, 0)), (5, .inl (0, 0)), (6, .inl (5, 0)), (7, .inl (5, 0))], [], []), [], [(false, 4933, (0, 0)), (false, 21, (5, 0)), (false, 9000, (0, 0)), (false, 0, (0, 0))])]
def qc163_33 : List qCt := [((67, [[(0, 0)], [(0, 3)], [(0, 2)], [(39, 39)], [(2, 20)]], [(0, .inr (.inr (.ref 71))), (1, .inl (1, 0)), (2, .inl (2, 0)), (3, .inl (0, 39)), (4, .inl (4, 0)), (5, .inl (0, 0)), (6, .inl (0, 1)), (7, .inl (0, 1))], [], []), [], [(false, 4933, (0, 0)), (false, 21, (0, 1)), (false, 9000, (0, 0)), (false, 0, (0, 0))])]
def qc163_34 : List qCt := [((67, [[(0, 0)], [(0, 3)], [(0, 2)], [(4, 4)], [(2, 20)], [(1, 20)]], [(0, .inr (.inr (.ref 71))), (1, .inl (1, 0)), (2, .inl (2, 0)), (3, .inl (0, 4)), (4, .inl (4, 0)), (5, .inl (0, 0)), (6, .inl (5, 0)), (7, .inl (5, 0))], [], []), [], [(false, 4933, (0, 0)), (false, 21, (5, 0)), (false, 9000, (0, 0)), (false, 0, (0, 0))])]
def qc163_35 : List qCt := [((67, [[(0, 0)], [(0, 3)], [(0, 2)], [(5, 5)], [(2, 20)], [(1, 20)]], [(0, .inr (.inr (.ref 71))), (1, .inl (1, 0)), (2, .inl (2, 0)), (3, .inl (0, 5)), (4, .inl (4, 0)), (5, .inl (0, 0)), (6, .inl (5, 0)), (7, .inl (5, 0))], [], []), [], [(false, 4933, (0, 0)), (false, 21, (5, 0)), (false, 9000, (0, 0)), (false, 0, (0, 0))])]
def qc163_36 : List qCt := [((67, [[(0, 0)], [(0, 3)], [(0, 2)], [(6, 6)], [(2, 20)], [(1, 20)]], [(0, .inr (.inr (.ref 71))), (1, .inl (1, 0)), (2, .inl (2, 0)), (3, .inl (0, 6)), (4, .inl (4, 0)), (5, .inl (0, 0)), (6, .inl (5, 0)), (7, .inl (5, 0))], [], []), [], [(false, 4933, (0, 0)), (false, 21, (5, 0)), (false, 9000, (0, 0)), (false, 0, (0, 0))])]
def qc163_37 : List qCt := [((67, [[(0, 0)], [(0, 3)], [(0, 2)], [(7, 7)], [(2, 20)], [(1, 20)]], [(0, .inr (.inr (.ref 71))), (1, .inl (1, 0)), (2, .inl (2, 0)), (3, .inl (0, 7)), (4, .inl (4, 0)), (5, .inl (0, 0)), (6, .inl (5, 0)), (7, .inl (5, 0))], [], []), [], [(false, 4933, (0, 0)), (false, 21, (5, 0)), (false, 9000, (0, 0)), (false, 0, (0, 0))])]
def qc163_38 : List qCt := [((67, [[(0, 0)], [(0, 3)], [(0, 2)], [(8, 8)], [(2, 20)], [(1, 20)]], [(0, .inr (.inr (.ref 71))), (1, .inl (1, 0)), (2, .inl (2, 0)), (3, .inl (0, 8)), (4, .inl (4, 0)), (5, .inl (0, 0)), (6, .inl (5, 0)), (7, .inl (5, 0))], [], []), [], [(false, 4933, (0, 0)), (false, 21, (5, 0)), (false, 9000, (0, 0)), (false, 0, (0, 0))])]
def qc163_39 : List qCt := [((67, [[(0, 0)], [(0, 3)], [(0, 2)], [(9, 9)], [(2, 20)], [(1, 20)]], [(0, .inr (.inr (.ref 71))), (1, .inl (1, 0)), (2, .inl (2, 0)), (3, .inl (0, 9)), (4, .inl (4, 0)), (5, .inl (0, 0)), (6, .inl (5, 0)), (7, .inl (5, 0))], [], []), [], [(false, 4933, (0, 0)), (false, 21, (5, 0)), (false, 9000, (0, 0)), (false, 0, (0, 0))])]
def qc163_40 : List qCt := [((67, [[(0, 0)], [(0, 3)], [(0, 2)], [((-2147483648), 2147483647)], [(1, 20)]], [(0, .inr (.inr (.ref 71))), (1, .inl (1, 0)), (2, .inl (2, 0)), (3, .inl (3, 0)), (4, .inl (4, 0)), (5, .inl (0, 0)), (6, .inl (0, 0)), (7, .inl (0, 0))], [], []), [], [(false, 4933, (0, 0)), (false, 21, (0, 0)), (false, 9000, (0, 0)), (false, 0, (0, 0))])]
def qc163 : List qCt := qc163_0 ++ qc163_1 ++ qc163_2 ++ qc163_3 ++ qc163_4 ++ qc163_5 ++ qc163_6 ++ qc163_7 ++ qc163_8 ++ qc163_9 ++ qc163_10 ++ qc163_11 ++ qc163_12 ++ qc163_13 ++ qc163_14 ++ qc163_15 ++ qc163_16 ++ qc163_17 ++ qc163_18 ++ qc163_19 ++ qc163_20 ++ qc163_21 ++ qc163_22 ++ qc163_23 ++ qc163_24 ++ qc163_25 ++ qc163_26 ++ qc163_27 ++ qc163_28 ++ qc163_29 ++ qc163_30 ++ qc163_31 ++ qc163_32 ++ qc163_33 ++ qc163_34 ++ qc163_35 ++ qc163_36 ++ qc163_37 ++ qc163_38 ++ qc163_39 ++ qc163_40
set_option maxRecDepth 100000 in
theorem qe163 : qck0 yT1 [qs161, qs119, qs162] qP 20000 [140] qc163 qs163 = true := by decide +kernel
set_option maxRecDepth 100000 in
theorem qf163_0 : qc163_0.all (qck1 yT1 [qs161, qs119, qs162] qP 20000 [140] qc163 qs163) = true := by decide +kernel
set_option maxRecDepth 100000 in
theorem qf163_1 : qc163_1.all (qck1 yT1 [qs161, qs119, qs162] qP 20000 [140] qc163 qs163) = true := by decide +kernel
set_option maxRecDepth 100000 in
theorem qf163_2 : qc163_2.all (qck1 yT1 [qs161, qs119, qs162] qP 20000 [140] qc163 qs163) = true := by decide +kernel
set_option maxRecDepth 100000 in
theorem qf163_3 : qc163_3.all (qck1 yT1 [qs161, qs119, qs162] qP 20000 [140] qc163 qs163) = true := by decide +kernel
set_option maxRecDepth 100000 in
theorem qf163_4 : qc163_4.all (qck1 yT1 [qs161, qs119, qs162] qP 20000 [140] qc163 qs163) = true := by decide +kernel
set_option maxRecDepth 100000 in
theorem qf163_5 : qc163_5.all (qck1 yT1 [qs161, qs119, qs162] qP 20000 [140] qc163 qs163) = true := by decide +kernel
set_option maxRecDepth 100000 in
theorem qf163_6 : qc163_6.all (qck1 yT1 [qs161, qs119, qs162] qP 20000 [140] qc163 qs163) = true := by decide +kernel
set_option maxRecDepth 100000 in
theorem qf163_7 : qc163_7.all (qck1 yT1 [qs161, qs119, qs162] qP 20000 [140] qc163 qs163) = true := by decide +kernel
set_option maxRecDepth 100000 in
theorem qf163_8 : qc163_8.all (qck1 yT1 [qs161, qs119, qs162] qP 20000 [140] qc163 qs163) = true := by decide +kernel
set_option maxRecDepth 100000 in
theorem qf163_9 : qc163_9.all (qck1 yT1 [qs161, qs119, qs162] qP 20000 [140] qc163 qs163) = true := by decide +kernel
set_option maxRecDepth 100000 in
theorem qf163_10 : qc163_10.all (qck1 yT1 [qs161, qs119, qs162] qP 20000 [140] qc163 qs163) = true := by decide +kernel
set_option maxRecDepth 100000 in
theorem qf163_11 : qc163_11.all (qck1 yT1 [qs161, qs119, qs162] qP 20000 [140] qc163 qs163) = true := by decide +kernel
set_option maxRecDepth 100000 in
theorem qf163_12 : qc163_12.all (qck1 yT1 [qs161, qs119, qs162] qP 20000 [140] qc163 qs163) = true := by decide +kernel
set_option maxRecDepth 100000 in
theorem qf163_13 : qc163_13.all (qck1 yT1 [qs161, qs119, qs162] qP 20000 [140] qc163 qs163) = true := by decide +kernel
set_option maxRecDepth 100000 in
theorem qf163_14 : qc163_14.all (qck1 yT1 [qs161, qs119, qs162] qP 20000 [140] qc163 qs163) = true := by decide +kernel
set_option maxRecDepth 100000 in
theorem qf163_15 : qc163_15.all (qck1 yT1 [qs161, qs119, qs162] qP 20000 [140] qc163 qs163) = true := by decide +kernel
set_option maxRecDepth 100000 in
theorem qf163_16 : qc163_16.all (qck1 yT1 [qs161, qs119, qs162] qP 20000 [140] qc163 qs163) = true := by decide +kernel
set_option maxRecDepth 100000 in
theorem qf163_17 : qc163_17.all (qck1 yT1 [qs161, qs119, qs162] qP 20000 [140] qc163 qs163) = true := by decide +kernel
set_option maxRecDepth 100000 in
theorem qf163_18 : qc163_18.all (qck1 yT1 [qs161, qs119, qs162] qP 20000 [140] qc163 qs163) = true := by decide +kernel
set_option maxRecDepth 100000 in
theorem qf163_19 : qc163_19.all (qck1 yT1 [qs161, qs119, qs162] qP 20000 [140] qc163 qs163) = true := by decide +kernel
set_option maxRecDepth 100000 in
theorem qf163_20 : qc163_20.all (qck1 yT1 [qs161, qs119, qs162] qP 20000 [140] qc163 qs163) = true := by decide +kernel
set_option maxRecDepth 100000 in
theorem qf163_21 : qc163_21.all (qck1 yT1 [qs161, qs119, qs162] qP 20000 [140] qc163 qs163) = true := by decide +kernel
set_option maxRecDepth 100000 in
theorem qf163_22 : qc163_22.all (qck1 yT1 [qs161, qs119, qs162] qP 20000 [140] qc163 qs163) = true := by decide +kernel
set_option maxRecDepth 100000 in
theorem qf163_23 : qc163_23.all (qck1 yT1 [qs161, qs119, qs162] qP 20000 [140] qc163 qs163) = true := by decide +kernel
set_option maxRecDepth 100000 in
theorem qf163_24 : qc163_24.all (qck1 yT1 [qs161, qs119, qs162] qP 20000 [140] qc163 qs163) = true := by decide +kernel
set_option maxRecDepth 100000 in
theorem qf163_25 : qc163_25.all (qck1 yT1 [qs161, qs119, qs162] qP 20000 [140] qc163 qs163) = true := by decide +kernel
set_option maxRecDepth 100000 in
theorem qf163_26 : qc163_26.all (qck1 yT1 [qs161, qs119, qs162] qP 20000 [140] qc163 qs163) = true := by decide +kernel
set_option maxRecDepth 100000 in
theorem qf163_27 : qc163_27.all (qck1 yT1 [qs161, qs119, qs162] qP 20000 [140] qc163 qs163) = true := by decide +kernel
set_option maxRecDepth 100000 in
theorem qf163_28 : qc163_28.all (qck1 yT1 [qs161, qs119, qs162] qP 20000 [140] qc163 qs163) = true := by decide +kernel
set_option maxRecDepth 100000 in
theorem qf163_29 : qc163_29.all (qck1 yT1 [qs161, qs119, qs162] qP 20000 [140] qc163 qs163) = true := by decide +kernel
set_option maxRecDepth 100000 in
theorem qf163_30 : qc163_30.all (qck1 yT1 [qs161, qs119, qs162] qP 20000 [140] qc163 qs163) = true := by decide +kernel
set_option maxRecDepth 100000 in
theorem qf163_31 : qc163_31.all (qck1 yT1 [qs161, qs119, qs162] qP 20000 [140] qc163 qs163) = true := by decide +kernel
set_option maxRecDepth 100000 in
theorem qf163_32 : qc163_32.all (qck1 yT1 [qs161, qs119, qs162] qP 20000 [140] qc163 qs163) = true := by decide +kernel
set_option maxRecDepth 100000 in
theorem qf163_33 : qc163_33.all (qck1 yT1 [qs161, qs119, qs162] qP 20000 [140] qc163 qs163) = true := by decide +kernel
set_option maxRecDepth 100000 in
theorem qf163_34 : qc163_34.all (qck1 yT1 [qs161, qs119, qs162] qP 20000 [140] qc163 qs163) = true := by decide +kernel
set_option maxRecDepth 100000 in
theorem qf163_35 : qc163_35.all (qck1 yT1 [qs161, qs119, qs162] qP 20000 [140] qc163 qs163) = true := by decide +kernel
set_option maxRecDepth 100000 in
theorem qf163_36 : qc163_36.all (qck1 yT1 [qs161, qs119, qs162] qP 20000 [140] qc163 qs163) = true := by decide +kernel
set_option maxRecDepth 100000 in
theorem qf163_37 : qc163_37.all (qck1 yT1 [qs161, qs119, qs162] qP 20000 [140] qc163 qs163) = true := by decide +kernel
set_option maxRecDepth 100000 in
theorem qf163_38 : qc163_38.all (qck1 yT1 [qs161, qs119, qs162] qP 20000 [140] qc163 qs163) = true := by decide +kernel
set_option maxRecDepth 100000 in
theorem qf163_39 : qc163_39.all (qck1 yT1 [qs161, qs119, qs162] qP 20000 [140] qc163 qs163) = true := by decide +kernel
set_option maxRecDepth 100000 in
theorem qf163_40 : qc163_40.all (qck1 yT1 [qs161, qs119, qs162] qP 20000 [140] qc163 qs163) = true := by decide +kernel
set_option maxRecDepth 100000 in
theorem qo163 : qOK yT1 86 1471 qs163 := qck_ok (m := 4) (qall_c qo161 (qall_c qo119 (qall_c qo162 qall_n))) rfl qe163 (by unfold qc163; simp only [List.all_append, Bool.and_eq_true]; exact ⟨⟨⟨⟨⟨⟨⟨⟨⟨⟨⟨⟨⟨⟨⟨⟨⟨⟨⟨⟨⟨⟨⟨⟨⟨⟨⟨⟨⟨⟨⟨⟨⟨⟨⟨⟨⟨⟨⟨⟨qf163_0, qf163_1⟩, qf163_2⟩, qf163_3⟩, qf163_4⟩, qf163_5⟩, qf163_6⟩, qf163_7⟩, qf163_8⟩, qf163_9⟩, qf163_10⟩, qf163_11⟩, qf163_12⟩, qf163_13⟩, qf163_14⟩, qf163_15⟩, qf163_16⟩, qf163_17⟩, qf163_18⟩, qf163_19⟩, qf163_20⟩, qf163_21⟩, qf163_22⟩, qf163_23⟩, qf163_24⟩, qf163_25⟩, qf163_26⟩, qf163_27⟩, qf163_28⟩, qf163_29⟩, qf163_30⟩, qf163_31⟩, qf163_32⟩, qf163_33⟩, qf163_34⟩, qf163_35⟩, qf163_36⟩, qf163_37⟩, qf163_38⟩, qf163_39⟩, qf163_40⟩) (by decide +kernel) (by decide +kernel)
